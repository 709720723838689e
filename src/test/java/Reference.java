import java.util.ArrayDeque;
import java.util.ArrayList;
import java.util.Arrays;
import java.util.Collections;
import java.util.HashMap;
import java.util.HashSet;
import java.util.List;
import java.util.Map;
import java.util.Set;
import java.util.TreeMap;
import java.util.TreeSet;
import java.util.regex.Matcher;
import java.util.regex.Pattern;

/** A second program of the document, written apart from MapSheets with the whole Java library. */
final class Reference {
    private static final int INVALID = -1;
    private static final int NOT_POSSIBLE = -2;
    private static final int LIMIT = -3;
    private static final int NOT_FOUND = -4;
    private static final Pattern TEXT = Pattern.compile("(?:[nesw][0-9](?:=[0-9]|-);)*");
    private static final Pattern ITEM = Pattern.compile("([nesw])([0-9])(?:=([0-9])|-);");

    private static final class Sheet {
        final Map<String, Integer> signs = new TreeMap<>();
        int[] legend = {0, 1, 2, 3, 4, 5, 6, 7, 8, 9};
        int revision = 0;
        Integer published = null;
        int scale = 1000;

        Sheet copy() {
            Sheet copy = new Sheet();
            copy.signs.putAll(signs);
            copy.legend = legend.clone();
            copy.revision = revision;
            copy.published = published;
            copy.scale = scale;
            return copy;
        }

        Integer sign(int side, int position) {
            return signs.get(side + "/" + position);
        }

        Integer means(int side, int position) {
            Integer sign = sign(side, position);
            return sign == null ? null : legend[sign];
        }

        void put(int side, int position, Integer sign) {
            if (sign == null) {
                signs.remove(side + "/" + position);
            } else {
                signs.put(side + "/" + position, sign);
            }
        }
    }

    private record Edge(int first, int second, boolean inRow) {
        int side(int sheet) {
            return inRow ? (sheet == first ? 1 : 3) : (sheet == first ? 2 : 0);
        }

        int other(int sheet) {
            return sheet == first ? second : first;
        }

        boolean isOf(int sheet) {
            return sheet == first || sheet == second;
        }
    }

    private static final class State {
        int columns;
        int rows;
        int guard = 1;
        int tolerance = 20;
        final List<Sheet> sheets = new ArrayList<>();
        final List<Edge> edges = new ArrayList<>();
        final Set<Edge> agreed = new HashSet<>();

        void begin(int newColumns, int newRows) {
            columns = newColumns;
            rows = newRows;
            sheets.clear();
            edges.clear();
            agreed.clear();
            for (int i = 0; i < columns * rows; i++) {
                sheets.add(new Sheet());
            }
            for (int y = 0; y < rows; y++) {
                for (int x = 0; x + 1 < columns; x++) {
                    edges.add(new Edge(columns * y + x, columns * y + x + 1, true));
                }
            }
            for (int y = 0; y + 1 < rows; y++) {
                for (int x = 0; x < columns; x++) {
                    edges.add(new Edge(columns * y + x, columns * (y + 1) + x, false));
                }
            }
        }

        State copy() {
            State copy = new State();
            copy.columns = columns;
            copy.rows = rows;
            copy.guard = guard;
            copy.tolerance = tolerance;
            for (Sheet sheet : sheets) {
                copy.sheets.add(sheet.copy());
            }
            copy.edges.addAll(edges);
            copy.agreed.addAll(agreed);
            return copy;
        }

        /** Each as position, reason. */
        List<int[]> quarrels(Edge edge) {
            List<int[]> found = new ArrayList<>();
            for (int position = 0; position < 10; position++) {
                Integer a = sheets.get(edge.first).means(edge.side(edge.first), position);
                Integer b = sheets.get(edge.second).means(edge.side(edge.second), position);
                if ((a == null) != (b == null)) {
                    found.add(new int[] {position, 1});
                } else if (a != null && !a.equals(b)) {
                    found.add(new int[] {position, 2});
                }
            }
            return found;
        }

        float ratio(Edge edge) {
            float a = (float) sheets.get(edge.first).scale / 1000.0f;
            float b = (float) sheets.get(edge.second).scale / 1000.0f;
            return a / b;
        }

        boolean fits(Edge edge) {
            return Math.abs((double) ratio(edge) - 1.0) <= tolerance / 1000.0;
        }

        Set<Integer> block(int sheet) {
            Set<Integer> found = new TreeSet<>();
            ArrayDeque<Integer> open = new ArrayDeque<>();
            open.add(sheet);
            while (!open.isEmpty()) {
                int next = open.remove();
                if (found.add(next)) {
                    for (Edge edge : agreed) {
                        if (edge.isOf(next)) {
                            open.add(edge.other(next));
                        }
                    }
                }
            }
            return found;
        }

        int blocks() {
            Set<Set<Integer>> found = new HashSet<>();
            for (int i = 0; i < sheets.size(); i++) {
                found.add(block(i));
            }
            return found.size();
        }

        Edge edgeAt(int sheet, int side) {
            for (Edge edge : edges) {
                if (edge.isOf(sheet) && edge.side(sheet) == side) {
                    return edge;
                }
            }
            return null;
        }

        boolean upToDate(Sheet sheet) {
            return sheet.published != null && sheet.published == sheet.revision;
        }
    }

    private State now = new State();
    private final ArrayDeque<State> history = new ArrayDeque<>();
    private String text = "";

    Reference() {
        now.begin(3, 2);
    }

    private static boolean in(int value, int least, int most) {
        return least <= value && value <= most;
    }

    private boolean isSheet(int sheet) {
        return in(sheet, 0, now.sheets.size() - 1);
    }

    private boolean isEdge(int edge) {
        return in(edge, 0, now.edges.size() - 1);
    }

    private void enter(State next) {
        history.addLast(now);
        if (history.size() == 5) {
            history.removeFirst();
        }
        now = next;
    }

    /** Enters a state in which the signs or the legend of a sheet are others, if the guard lets it. */
    private int enterGuarded(State next, int sheet, int answer) {
        for (Edge edge : next.edges) {
            if (next.agreed.contains(edge) && !next.quarrels(edge).isEmpty()) {
                if (next.guard == 1) {
                    return NOT_POSSIBLE;
                }
                next.agreed.remove(edge);
            }
        }
        next.sheets.get(sheet).revision++;
        enter(next);
        return answer;
    }

    int grid(int columns, int rows) {
        if (!in(columns, 1, 6) || !in(rows, 1, 6)) {
            return INVALID;
        }
        State next = now.copy();
        next.begin(columns, rows);
        enter(next);
        return now.edges.size();
    }

    int set(int what, int value) {
        if (!(what == 0 && in(value, 0, 1)) && !(what == 1 && in(value, 0, 1000))) {
            return INVALID;
        }
        State next = now.copy();
        int previous;
        if (what == 0) {
            previous = next.guard;
            next.guard = value;
        } else {
            previous = next.tolerance;
            next.tolerance = value;
        }
        enter(next);
        return previous;
    }

    private boolean isPlace(int sheet, int side, int position) {
        return isSheet(sheet) && in(side, 0, 3) && in(position, 0, 9);
    }

    int show(int sheet, int side, int position, int sign) {
        if (!isPlace(sheet, side, position) || !in(sign, 0, 9)) {
            return INVALID;
        }
        State next = now.copy();
        Integer previous = now.sheets.get(sheet).sign(side, position);
        next.sheets.get(sheet).put(side, position, sign);
        return enterGuarded(next, sheet, previous == null ? 10 : previous);
    }

    int erase(int sheet, int side, int position) {
        if (!isPlace(sheet, side, position)) {
            return INVALID;
        }
        Integer previous = now.sheets.get(sheet).sign(side, position);
        if (previous == null) {
            return NOT_POSSIBLE;
        }
        State next = now.copy();
        next.sheets.get(sheet).put(side, position, null);
        return enterGuarded(next, sheet, previous);
    }

    int mean(int sheet, int sign, int meaning) {
        if (!isSheet(sheet) || !in(sign, 0, 9) || !in(meaning, 0, 9)) {
            return INVALID;
        }
        State next = now.copy();
        int previous = now.sheets.get(sheet).legend[sign];
        next.sheets.get(sheet).legend[sign] = meaning;
        return enterGuarded(next, sheet, previous);
    }

    int sign(int sheet, int side, int position) {
        if (!isPlace(sheet, side, position)) {
            return INVALID;
        }
        Integer sign = now.sheets.get(sheet).sign(side, position);
        return sign == null ? NOT_FOUND : sign;
    }

    int meaning(int sheet, int sign) {
        return isSheet(sheet) && in(sign, 0, 9) ? now.sheets.get(sheet).legend[sign] : INVALID;
    }

    int sheet(int sheet, int what) {
        if (!isSheet(sheet) || !in(what, 0, 9)) {
            return INVALID;
        }
        Sheet it = now.sheets.get(sheet);
        int edges = 0;
        int agreed = 0;
        for (Edge edge : now.edges) {
            edges += edge.isOf(sheet) ? 1 : 0;
            agreed += edge.isOf(sheet) && now.agreed.contains(edge) ? 1 : 0;
        }
        int published = it.published == null ? NOT_FOUND : it.published;
        return new int[] {sheet % now.columns, sheet / now.columns, edges, agreed, it.revision, published,
            now.upToDate(it) ? 1 : 0, it.scale, it.signs.size(), Collections.min(now.block(sheet))}[what];
    }

    int count(int what) {
        if (!in(what, 0, 14)) {
            return INVALID;
        }
        int clean = 0;
        int quarrels = 0;
        int fitting = 0;
        for (Edge edge : now.edges) {
            int of = now.quarrels(edge).size();
            clean += of == 0 ? 1 : 0;
            quarrels += of;
            fitting += now.fits(edge) ? 1 : 0;
        }
        int published = 0;
        int upToDate = 0;
        for (Sheet sheet : now.sheets) {
            published += sheet.published != null ? 1 : 0;
            upToDate += now.upToDate(sheet) ? 1 : 0;
        }
        return new int[] {now.columns, now.rows, now.sheets.size(), now.edges.size(), now.agreed.size(), clean,
            quarrels, now.blocks(), published, upToDate, fitting, history.size(), text.length(), now.guard,
            now.tolerance}[what];
    }

    int undo() {
        if (history.isEmpty()) {
            return NOT_POSSIBLE;
        }
        now = history.removeLast();
        return history.size();
    }

    int edge(int edge, int what) {
        if (!isEdge(edge) || !in(what, 0, 6)) {
            return INVALID;
        }
        Edge it = now.edges.get(edge);
        int both = 0;
        for (int position = 0; position < 10; position++) {
            boolean first = now.sheets.get(it.first).sign(it.side(it.first), position) != null;
            boolean second = now.sheets.get(it.second).sign(it.side(it.second), position) != null;
            both += first && second ? 1 : 0;
        }
        return new int[] {it.first, it.second, it.side(it.first), now.agreed.contains(it) ? 1 : 0,
            now.quarrels(it).size(), both, now.fits(it) ? 1 : 0}[what];
    }

    int edgeAt(int sheet, int side) {
        if (!isSheet(sheet) || !in(side, 0, 3)) {
            return INVALID;
        }
        Edge edge = now.edgeAt(sheet, side);
        return edge == null ? NOT_FOUND : now.edges.indexOf(edge);
    }

    int quarrel(int edge, int index, int what) {
        if (!isEdge(edge) || index < 0 || !in(what, 0, 3)) {
            return INVALID;
        }
        Edge it = now.edges.get(edge);
        List<int[]> quarrels = now.quarrels(it);
        if (index >= quarrels.size()) {
            return NOT_FOUND;
        }
        if (what < 2) {
            return quarrels.get(index)[what];
        }
        int sheet = what == 2 ? it.first : it.second;
        Integer meaning = now.sheets.get(sheet).means(it.side(sheet), quarrels.get(index)[0]);
        return meaning == null ? NOT_FOUND : meaning;
    }

    int agree(int edge) {
        if (!isEdge(edge)) {
            return INVALID;
        }
        if (!now.quarrels(now.edges.get(edge)).isEmpty()) {
            return NOT_POSSIBLE;
        }
        State next = now.copy();
        boolean added = next.agreed.add(now.edges.get(edge));
        enter(next);
        return added ? 0 : 1;
    }

    int release(int edge) {
        if (!isEdge(edge)) {
            return INVALID;
        }
        State next = now.copy();
        if (!next.agreed.remove(now.edges.get(edge))) {
            return NOT_POSSIBLE;
        }
        enter(next);
        return now.blocks();
    }

    int settle(int edge, int sheet) {
        if (!isEdge(edge) || !now.edges.get(edge).isOf(sheet)) {
            return INVALID;
        }
        State next = now.copy();
        Edge it = now.edges.get(edge);
        Sheet from = next.sheets.get(sheet);
        Sheet to = next.sheets.get(it.other(sheet));
        int toSide = it.side(it.other(sheet));
        Map<String, Integer> before = new HashMap<>(to.signs);
        for (int position = 0; position < 10; position++) {
            Integer meaning = from.means(it.side(sheet), position);
            if (meaning == null) {
                to.put(toSide, position, null);
            } else if (!meaning.equals(to.means(toSide, position))) {
                int lowest = 0;
                while (lowest < 10 && to.legend[lowest] != meaning) {
                    lowest++;
                }
                if (lowest == 10) {
                    return NOT_POSSIBLE;
                }
                to.put(toSide, position, lowest);
            }
        }
        int changed = 0;
        for (int position = 0; position < 10; position++) {
            Integer was = before.get(toSide + "/" + position);
            Integer is = to.sign(toSide, position);
            changed += was == null ? (is == null ? 0 : 1) : (was.equals(is) ? 0 : 1);
        }
        to.revision += changed > 0 ? 1 : 0;
        enter(next);
        return changed;
    }

    int ratio(int edge) {
        return isEdge(edge) ? Float.floatToIntBits(now.ratio(now.edges.get(edge))) : INVALID;
    }

    int publish(int sheet) {
        if (!isSheet(sheet)) {
            return INVALID;
        }
        for (Edge edge : now.edges) {
            if (edge.isOf(sheet) && !now.agreed.contains(edge)) {
                return NOT_POSSIBLE;
            }
        }
        State next = now.copy();
        next.sheets.get(sheet).published = next.sheets.get(sheet).revision;
        enter(next);
        return now.sheets.get(sheet).revision;
    }

    int scale(int sheet, int thousandths) {
        if (!isSheet(sheet) || !in(thousandths, 1, 1000000)) {
            return INVALID;
        }
        State next = now.copy();
        int previous = next.sheets.get(sheet).scale;
        next.sheets.get(sheet).scale = thousandths;
        enter(next);
        return previous;
    }

    int stretched(int sheet, int units) {
        if (!isSheet(sheet) || !in(units, 0, 10000000)) {
            return INVALID;
        }
        float length = (float) units * ((float) now.sheets.get(sheet).scale / 1000.0f);
        return length >= 2147483648.0f ? Integer.MAX_VALUE : (int) length;
    }

    int type(int character) {
        if (!in(character, 32, 126)) {
            return INVALID;
        }
        if (text.length() == 100) {
            return LIMIT;
        }
        text = text + (char) character;
        return text.length();
    }

    int clearText() {
        int length = text.length();
        text = "";
        return length;
    }

    /** The longest beginning of the text that is the beginning of a text without a fault. */
    int fault() {
        if (TEXT.matcher(text).matches()) {
            return NOT_FOUND;
        }
        for (int length = text.length(); length > 0; length--) {
            if (couldGoOn(text.substring(0, length))) {
                return length;
            }
        }
        return 0;
    }

    private static boolean couldGoOn(String beginning) {
        String[] ends = {"", ";", "-;", "0;", "0-;"};
        return Arrays.stream(ends).anyMatch(end -> TEXT.matcher(beginning + end).matches());
    }

    int read(int sheet) {
        if (!isSheet(sheet)) {
            return INVALID;
        }
        if (!TEXT.matcher(text).matches()) {
            return NOT_POSSIBLE;
        }
        State next = now.copy();
        int taken = 0;
        Matcher item = ITEM.matcher(text);
        while (item.find()) {
            String sign = item.group(3);
            int side = "nesw".indexOf(item.group(1));
            next.sheets.get(sheet).put(side, Integer.parseInt(item.group(2)),
                sign == null ? null : Integer.valueOf(sign));
            taken++;
        }
        if (taken == 0) {
            enter(next);
            return 0;
        }
        return enterGuarded(next, sheet, taken);
    }
}
