import java.util.ArrayList;
import java.util.List;

/**
 * Everything that can be seen of an object: its answers to all questions, now and after each undo, and the signs of
 * its text. An object is used for at most 512 calls, so for each part of the questions a new object is led through
 * the same calls.
 */
final class Whole {
    interface Calls {
        void on(MapSheets x);
    }

    interface Question {
        int on(MapSheets x);
    }

    private record Asked(String name, Question question) {
    }

    private static final int PART = 200;

    private final Calls calls;
    private final List<String> names = new ArrayList<>();
    private final List<Integer> answers = new ArrayList<>();

    private Whole(Calls calls) {
        this.calls = calls;
        int states = led(0).count(11);
        for (int undone = 0; undone <= states; undone++) {
            askAll(undone);
        }
        askText();
    }

    /** Compares everything that can be seen after some calls with what can be seen after others. */
    static void same(Due due, String what, Calls got, Calls want) {
        Whole one = new Whole(got);
        Whole other = new Whole(want);
        due.same(what + ": number of answers", one.names.size(), other.names.size());
        for (int i = 0; i < one.names.size() && i < other.names.size(); i++) {
            due.same(what + ": " + one.names.get(i), one.answers.get(i), other.answers.get(i));
        }
    }

    static void type(MapSheets x, String text) {
        for (int i = 0; i < text.length(); i++) {
            x.type(text.charAt(i));
        }
    }

    private MapSheets led(int undone) {
        MapSheets x = new MapSheets();
        calls.on(x);
        for (int i = 0; i < undone; i++) {
            x.undo();
        }
        return x;
    }

    private void askAll(int undone) {
        List<Asked> questions = questionsFor(led(undone));
        MapSheets x = led(undone);
        for (int i = 0; i < questions.size(); i++) {
            if (i % PART == PART - 1) {
                x = led(undone);
            }
            names.add(questions.get(i).name + " after " + undone + " undo()");
            answers.add(questions.get(i).question.on(x));
        }
    }

    private void askText() {
        MapSheets x = led(0);
        x.set(0, 0);
        x.grid(1, 1);
        names.add("read(0) of the text");
        answers.add(x.read(0));
        for (int i = 0; i < 40; i++) {
            names.add("sign of the text at " + i);
            answers.add(x.sign(0, i / 10, i % 10));
        }
    }

    private static List<Asked> questionsFor(MapSheets x) {
        List<Asked> questions = new ArrayList<>();
        for (int i = 0; i < 15; i++) {
            int what = i;
            questions.add(new Asked("count(" + what + ")", y -> y.count(what)));
        }
        questions.add(new Asked("fault()", MapSheets::fault));
        int sheets = x.count(2);
        for (int sheet = 0; sheet < sheets; sheet++) {
            addSheet(questions, sheet);
        }
        int edges = x.count(3);
        for (int edge = 0; edge < edges; edge++) {
            addEdge(questions, edge, x.edge(edge, 4));
        }
        return questions;
    }

    private static void addSheet(List<Asked> questions, int sheet) {
        for (int i = 0; i < 10; i++) {
            int what = i;
            questions.add(new Asked("sheet(" + sheet + ", " + what + ")", x -> x.sheet(sheet, what)));
            questions.add(new Asked("meaning(" + sheet + ", " + what + ")", x -> x.meaning(sheet, what)));
        }
        for (int i = 0; i < 40; i++) {
            int side = i / 10;
            int position = i % 10;
            questions.add(new Asked("sign(" + sheet + ", " + side + ", " + position + ")",
                x -> x.sign(sheet, side, position)));
        }
    }

    private static void addEdge(List<Asked> questions, int edge, int quarrels) {
        for (int i = 0; i < 7; i++) {
            int what = i;
            questions.add(new Asked("edge(" + edge + ", " + what + ")", x -> x.edge(edge, what)));
        }
        for (int i = 0; i < 4 * quarrels; i++) {
            int index = i / 4;
            int what = i % 4;
            questions.add(new Asked("quarrel(" + edge + ", " + index + ", " + what + ")",
                x -> x.quarrel(edge, index, what)));
        }
        questions.add(new Asked("ratio(" + edge + ")", x -> x.ratio(edge)));
    }
}
