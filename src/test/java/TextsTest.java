/** Promises 22 to 25: the text, its fault, and reading it into a sheet. */
public final class TextsTest {
    private static final Due DUE = new Due("TextsTest");
    private static final int LEAST = Integer.MIN_VALUE;
    private static final int MOST = Integer.MAX_VALUE;

    public static void main(String[] args) {
        promise22Type();
        promise22TypeBeyondTheLimit();
        promise23ClearText();
        promise24Fault();
        promise24FaultOfEveryCharacter();
        promise25Read();
        promise25ReadTheWholeText();
        promise25ReadAndGuard();
        promise25ReadWithoutGuard();
        promise25ReadOfAnEmptyText();
        promise25WrongRead();
        DUE.finish();
    }

    private static void same(String call, long got, long want) {
        DUE.same(call, got, want);
    }

    private static void typeAll(MapSheets x, String text) {
        x.clearText();
        for (int i = 0; i < text.length(); i++) {
            same("type", x.type(text.charAt(i)), i + 1);
        }
    }

    private static void promise22Type() {
        MapSheets x = new MapSheets();
        int length = 0;
        for (int character = 32; character <= 126; character++) {
            length++;
            same("type " + character, x.type(character), length);
        }
        int[] wrong = {31, 127, 0, -1, 110 + 65536, LEAST, MOST};
        for (int character : wrong) {
            same("wrong character", x.type(character), MapSheets.INVALID_ARGUMENT);
        }
        same("length", x.count(12), length);
    }

    private static void promise22TypeBeyondTheLimit() {
        MapSheets x = new MapSheets();
        for (int length = 1; length <= 100; length++) {
            same("type", x.type('n'), length);
        }
        same("beyond", x.type('n'), MapSheets.LIMIT_REACHED);
        same("wrong and beyond", x.type(127), MapSheets.INVALID_ARGUMENT);
        same("length", x.count(12), 100);
        same("clear", x.clearText(), 100);
        same("type again", x.type('n'), 1);
    }

    private static void promise23ClearText() {
        MapSheets x = new MapSheets();
        same("clear an empty text", x.clearText(), 0);
        typeAll(x, "n0");
        same("clear", x.clearText(), 2);
        same("length", x.count(12), 0);
        same("no fault", x.fault(), MapSheets.NOT_FOUND);
        same("clear again", x.clearText(), 0);
        typeAll(x, "e");
        same("the old text is gone", x.fault(), 1);
    }

    private static void faultIs(String text, int due) {
        MapSheets x = new MapSheets();
        typeAll(x, text);
        same("fault of " + text, x.fault(), due);
        same("text stays", x.count(12), text.length());
        same("read of " + text, x.read(0) == MapSheets.NOT_POSSIBLE ? 1 : 0, due == MapSheets.NOT_FOUND ? 0 : 1);
    }

    private static void promise24Fault() {
        String[] whole = {"", "n0-;", "e9=9;", "s5=0;w1-;", "n0=1;n0-;n0=2;", "w9-;w9-;"};
        for (String text : whole) {
            faultIs(text, MapSheets.NOT_FOUND);
        }
        String[] early = {"n", "n3", "n3=", "n3=5", "n3-", "n3-;e", "n3-;e4=1", "w0=0;s"};
        for (String text : early) {
            faultIs(text, text.length());
        }
        faultIs("x", 0);
        faultIs(" ", 0);
        faultIs("N3=5;", 0);
        faultIs(";", 0);
        faultIs("nn", 1);
        faultIs("n:", 1);
        faultIs("n/", 1);
        faultIs("n33", 2);
        faultIs("n3;", 2);
        faultIs("n3=-;", 3);
        faultIs("n3=;", 3);
        faultIs("n3=12;", 4);
        faultIs("n3-1;", 3);
        faultIs("n3--;", 3);
        faultIs("n3=5;;", 5);
        faultIs("n3=5; e1-;", 5);
        faultIs("n3-;x???", 4);
        faultIs("n3-,", 3);
    }

    private static void promise24FaultOfEveryCharacter() {
        String[] before = {"", "n", "n3", "n3=", "n3=5", "n3-", "n3-;"};
        String[] allowed = {"nesw", "0123456789", "=-", "0123456789", ";", ";", "nesw"};
        for (int i = 0; i < before.length; i++) {
            for (char character = 32; character <= 126; character++) {
                boolean canStand = allowed[i].indexOf(character) >= 0;
                MapSheets x = new MapSheets();
                typeAll(x, before[i] + character);
                boolean ends = canStand && character == ';';
                int due = !canStand ? before[i].length() : ends ? MapSheets.NOT_FOUND : before[i].length() + 1;
                same("fault of " + before[i] + character, x.fault(), due);
            }
        }
    }

    private static void promise25Read() {
        MapSheets x = new MapSheets();
        x.show(4, 3, 5, 5);
        x.show(4, 2, 6, 6);
        typeAll(x, "n1=2;e3=4;s6-;w5=0;n9-;");
        same("read", x.read(4), 5);
        same("north", x.sign(4, 0, 1), 2);
        same("east", x.sign(4, 1, 3), 4);
        same("south", x.sign(4, 2, 6), MapSheets.NOT_FOUND);
        same("west", x.sign(4, 3, 5), 0);
        same("nothing erased", x.sign(4, 0, 9), MapSheets.NOT_FOUND);
        same("signs", x.sheet(4, 8), 3);
        same("one revision", x.sheet(4, 4), 3);
        same("one change", x.undo(), 2);
        same("undone", x.sign(4, 2, 6), 6);
        same("the text stays", x.count(12), 23);
        typeAll(x, "s0=1;s0-;s0-;s0=3;s1=4;s1-;");
        same("one after the other", x.read(4), 6);
        same("the last one", x.sign(4, 2, 0), 3);
        same("the last one erases", x.sign(4, 2, 1), MapSheets.NOT_FOUND);
        typeAll(x, "n9-;");
        same("nothing becomes different", x.read(3), 1);
        same("a revision all the same", x.sheet(3, 4), 1);
    }

    private static void promise25ReadTheWholeText() {
        MapSheets x = new MapSheets();
        StringBuilder text = new StringBuilder();
        for (int i = 0; i < 20; i++) {
            text.append(i < 10 ? 'e' : 'w').append(i % 10).append('=').append(9 - i % 10).append(';');
        }
        typeAll(x, text.toString());
        same("a full text has no fault", x.fault(), MapSheets.NOT_FOUND);
        same("read", x.read(5), 20);
        for (int position = 0; position < 10; position++) {
            same("east", x.sign(5, 1, position), 9 - position);
            same("west", x.sign(5, 3, position), 9 - position);
        }
    }

    private static void promise25ReadAndGuard() {
        MapSheets x = new MapSheets();
        x.show(0, 1, 7, 4);
        x.show(1, 3, 7, 4);
        x.agree(0);
        typeAll(x, "s0=1;w7-;");
        same("forbidden", x.read(1), MapSheets.NOT_POSSIBLE);
        same("nothing is taken", x.sheet(1, 8), 1);
        same("no revision", x.sheet(1, 4), 1);
        same("no change", x.count(11), 3);
        typeAll(x, "w7-;w3=1;w7=4;w3-;");
        same("it goes by the end", x.read(1), 4);
        same("still agreed", x.edge(0, 3), 1);
        same("revision", x.sheet(1, 4), 2);
        x.mean(1, 0, 4);
        typeAll(x, "w7=0;");
        same("the same meaning", x.read(1), 1);
        typeAll(x, "w7=1;");
        same("another meaning", x.read(1), MapSheets.NOT_POSSIBLE);
        same("sign stays", x.sign(1, 3, 7), 0);
    }

    private static void promise25ReadWithoutGuard() {
        MapSheets x = new MapSheets();
        for (int edge = 0; edge < 7; edge++) {
            x.agree(edge);
        }
        x.set(0, 0);
        typeAll(x, "n1=1;w2=2;e3=3;e3-;");
        same("read", x.read(4), 4);
        same("north is dropped", x.edge(5, 3), 0);
        same("west is dropped", x.edge(2, 3), 0);
        same("east goes by the end", x.edge(3, 3), 1);
        same("agreed edges", x.count(4), 5);
    }

    private static void promise25ReadOfAnEmptyText() {
        MapSheets x = new MapSheets();
        same("read", x.read(1), 0);
        same("no revision", x.sheet(1, 4), 0);
        same("a change", x.count(11), 1);
    }

    private static void promise25WrongRead() {
        MapSheets x = new MapSheets();
        int[] wrong = {-1, 6, LEAST, MOST};
        typeAll(x, "n0=0;");
        for (int sheet : wrong) {
            same("wrong sheet", x.read(sheet), MapSheets.INVALID_ARGUMENT);
        }
        typeAll(x, "n0=0;e");
        same("a fault", x.read(0), MapSheets.NOT_POSSIBLE);
        same("a fault and no sheet", x.read(6), MapSheets.INVALID_ARGUMENT);
        same("nothing is taken", x.sheet(0, 8), 0);
        same("no change", x.count(11), 0);
    }
}
