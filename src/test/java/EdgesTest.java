/** Promises 12 to 21: the edges, their quarrels and agreements, publishing and scales. */
public final class EdgesTest {
    private static final Due DUE = new Due("EdgesTest");
    private static final int LEAST = Integer.MIN_VALUE;
    private static final int MOST = Integer.MAX_VALUE;
    private static final int[] WRONG_EDGES = {-1, 7, LEAST, MOST};
    private static final int[] WRONG_SHEETS = {-1, 6, LEAST, MOST};

    public static void main(String[] args) {
        promise12EdgesInOrder();
        promise12EdgeContents();
        promise12WrongEdges();
        promise13EdgeAt();
        promise14Quarrel();
        promise14QuarrelOfAColumn();
        promise15Agree();
        promise16Release();
        promise17Settle();
        promise17SettleFromTheSecondSheet();
        promise17SettleWithoutASign();
        promise17SettleTouchesNoOtherEdge();
        promise17WrongSettle();
        promise18Ratio();
        promise18Fits();
        promise19Publish();
        promise20Scale();
        promise21Stretched();
        DUE.finish();
    }

    private static void same(String call, long got, long want) {
        DUE.same(call, got, want);
    }

    private static void promise12EdgesInOrder() {
        for (int columns = 1; columns <= 6; columns++) {
            for (int rows = 1; rows <= 6; rows++) {
                MapSheets x = new MapSheets();
                x.grid(columns, rows);
                int number = 0;
                for (int sheet = 0; sheet < columns * rows; sheet++) {
                    if (sheet % columns < columns - 1) {
                        edgeIs(x, number, sheet, sheet + 1, 1);
                        number++;
                    }
                }
                for (int sheet = 0; sheet < columns * (rows - 1); sheet++) {
                    edgeIs(x, number, sheet, sheet + columns, 2);
                    number++;
                }
                same("edges", x.count(3), number);
                same("behind the last edge", x.edge(number, 0), MapSheets.INVALID_ARGUMENT);
            }
        }
    }

    private static void edgeIs(MapSheets x, int edge, int first, int second, int side) {
        same("first sheet of " + edge, x.edge(edge, 0), first);
        same("second sheet of " + edge, x.edge(edge, 1), second);
        same("side of the first", x.edge(edge, 2), side);
        same("edge of the first", x.edgeAt(first, side), edge);
        same("edge of the second", x.edgeAt(second, side == 1 ? 3 : 0), edge);
    }

    private static void promise12EdgeContents() {
        MapSheets x = new MapSheets();
        x.show(1, 2, 0, 1);
        x.show(4, 0, 0, 1);
        x.show(1, 2, 1, 1);
        x.show(4, 0, 1, 2);
        x.show(1, 2, 2, 1);
        x.show(4, 0, 9, 2);
        same("agreed", x.edge(5, 3), 0);
        same("quarrels", x.edge(5, 4), 3);
        same("both show", x.edge(5, 5), 2);
        same("fits", x.edge(5, 6), 1);
        same("others have none", x.count(6), 3);
        x.mean(4, 2, 1);
        same("a quarrel less", x.edge(5, 4), 2);
        same("both show as before", x.edge(5, 5), 2);
        x.settle(5, 1);
        x.agree(5);
        x.scale(4, 1500);
        same("agreed then", x.edge(5, 3), 1);
        same("quarrels then", x.edge(5, 4), 0);
        same("both show then", x.edge(5, 5), 3);
        same("fits no more", x.edge(5, 6), 0);
    }

    private static void promise12WrongEdges() {
        MapSheets x = new MapSheets();
        for (int edge : WRONG_EDGES) {
            for (int what = 0; what < 7; what++) {
                same("wrong edge", x.edge(edge, what), MapSheets.INVALID_ARGUMENT);
            }
        }
        int[] wrong = {-1, 7, LEAST, MOST};
        for (int what : wrong) {
            same("wrong what", x.edge(0, what), MapSheets.INVALID_ARGUMENT);
        }
        x.grid(1, 1);
        same("no edge at all", x.edge(0, 0), MapSheets.INVALID_ARGUMENT);
    }

    private static void promise13EdgeAt() {
        MapSheets x = new MapSheets();
        int[][] due = {
            {-4, 0, 4, -4}, {-4, 1, 5, 0}, {-4, -4, 6, 1}, {4, 2, -4, -4}, {5, 3, -4, 2}, {6, -4, -4, 3}};
        for (int sheet = 0; sheet < 6; sheet++) {
            for (int side = 0; side < 4; side++) {
                same("edgeAt(" + sheet + ", " + side + ")", x.edgeAt(sheet, side), due[sheet][side]);
            }
        }
        for (int sheet : WRONG_SHEETS) {
            same("wrong sheet", x.edgeAt(sheet, 1), MapSheets.INVALID_ARGUMENT);
        }
        int[] wrong = {-1, 4, LEAST, MOST};
        for (int side : wrong) {
            same("wrong side", x.edgeAt(0, side), MapSheets.INVALID_ARGUMENT);
        }
        x.grid(1, 1);
        for (int side = 0; side < 4; side++) {
            same("outer side", x.edgeAt(0, side), MapSheets.NOT_FOUND);
        }
    }

    private static void quarrelIs(MapSheets x, int edge, int index, int[] due) {
        for (int what = 0; what < 4; what++) {
            same("quarrel(" + edge + ", " + index + ", " + what + ")", x.quarrel(edge, index, what), due[what]);
        }
    }

    private static final int[] NO_QUARREL = {-4, -4, -4, -4};

    private static void promise14Quarrel() {
        MapSheets x = new MapSheets();
        x.mean(1, 6, 0);
        x.mean(2, 5, 0);
        x.show(1, 1, 9, 6);
        x.show(2, 3, 9, 4);
        x.show(1, 1, 0, 6);
        x.show(2, 3, 3, 5);
        x.show(1, 1, 4, 6);
        x.show(2, 3, 4, 5);
        quarrelIs(x, 1, 0, new int[] {0, 1, 0, -4});
        quarrelIs(x, 1, 1, new int[] {3, 1, -4, 0});
        quarrelIs(x, 1, 2, new int[] {9, 2, 0, 4});
        quarrelIs(x, 1, 3, NO_QUARREL);
        quarrelIs(x, 1, MOST, NO_QUARREL);
        quarrelIs(x, 0, 0, NO_QUARREL);
        for (int edge : WRONG_EDGES) {
            same("wrong edge", x.quarrel(edge, 0, 0), MapSheets.INVALID_ARGUMENT);
        }
        same("wrong index", x.quarrel(1, -1, 0), MapSheets.INVALID_ARGUMENT);
        same("wrong index", x.quarrel(1, LEAST, 0), MapSheets.INVALID_ARGUMENT);
        int[] wrong = {-1, 4, LEAST, MOST};
        for (int what : wrong) {
            same("wrong what", x.quarrel(1, 0, what), MapSheets.INVALID_ARGUMENT);
            same("wrong what without a quarrel", x.quarrel(1, 9, what), MapSheets.INVALID_ARGUMENT);
        }
    }

    private static void promise14QuarrelOfAColumn() {
        MapSheets x = new MapSheets();
        for (int position = 0; position < 10; position++) {
            x.show(2, 2, position, position);
            x.show(5, 0, position, (position + 1) % 10);
        }
        for (int position = 0; position < 10; position++) {
            quarrelIs(x, 6, position, new int[] {position, 2, position, (position + 1) % 10});
        }
        quarrelIs(x, 6, 10, NO_QUARREL);
        same("quarrels", x.edge(6, 4), 10);
    }

    private static void promise15Agree() {
        MapSheets x = new MapSheets();
        same("agree", x.agree(0), 0);
        same("agree again", x.agree(0), 1);
        same("agreed", x.edge(0, 3), 1);
        same("agreed edges", x.count(4), 1);
        x.show(4, 0, 0, 0);
        same("not clean", x.agree(5), MapSheets.NOT_POSSIBLE);
        same("not agreed", x.edge(5, 3), 0);
        x.show(1, 2, 0, 1);
        same("other meanings", x.agree(5), MapSheets.NOT_POSSIBLE);
        x.mean(1, 1, 0);
        same("the same meaning", x.agree(5), 0);
        for (int edge : WRONG_EDGES) {
            same("wrong edge", x.agree(edge), MapSheets.INVALID_ARGUMENT);
        }
        same("no revision", x.sheet(0, 4), 0);
    }

    private static void promise16Release() {
        MapSheets x = new MapSheets();
        same("not agreed", x.release(0), MapSheets.NOT_POSSIBLE);
        x.agree(0);
        x.agree(1);
        x.agree(4);
        same("blocks", x.count(7), 3);
        same("release", x.release(1), 4);
        same("release again", x.release(1), MapSheets.NOT_POSSIBLE);
        same("agreed edges", x.count(4), 2);
        same("guard of a released edge", x.show(1, 1, 0, 0), 10);
        for (int edge : WRONG_EDGES) {
            same("wrong edge", x.release(edge), MapSheets.INVALID_ARGUMENT);
        }
    }

    private static void promise17Settle() {
        MapSheets x = new MapSheets();
        x.mean(1, 3, 5);
        x.mean(1, 4, 5);
        x.mean(0, 9, 5);
        x.show(0, 1, 0, 9);
        x.show(0, 1, 1, 9);
        x.show(1, 3, 1, 4);
        x.show(0, 1, 2, 5);
        x.show(1, 3, 2, 6);
        x.show(1, 3, 3, 5);
        x.show(1, 3, 9, 0);
        same("revision before", x.sheet(1, 4), 6);
        same("settle", x.settle(0, 0), 4);
        int[] due = {3, 4, 3, -4, -4, -4, -4, -4, -4, -4};
        for (int position = 0; position < 10; position++) {
            same("sign at " + position, x.sign(1, 3, position), due[position]);
        }
        same("clean", x.edge(0, 4), 0);
        same("one revision", x.sheet(1, 4), 7);
        same("no revision of the sheet itself", x.sheet(0, 4), 4);
        same("not agreed by it", x.edge(0, 3), 0);
        same("settle again", x.settle(0, 0), 0);
        same("no revision then", x.sheet(1, 4), 7);
        same("a change all the same", x.undo(), 3);
        same("undo settle", x.undo(), 2);
        same("sign again", x.sign(1, 3, 9), 0);
        same("revision again", x.sheet(1, 4), 6);
        x.settle(0, 0);
        x.agree(0);
        same("settle an agreed edge", x.settle(0, 1), 0);
        same("still agreed", x.edge(0, 3), 1);
    }

    private static void promise17SettleFromTheSecondSheet() {
        MapSheets x = new MapSheets();
        x.show(3, 0, 7, 8);
        x.show(0, 2, 1, 1);
        same("settle a column", x.settle(4, 3), 2);
        same("shown", x.sign(0, 2, 7), 8);
        same("erased", x.sign(0, 2, 1), MapSheets.NOT_FOUND);
        same("revision", x.sheet(0, 4), 2);
        same("the source stays", x.sheet(3, 8), 1);
        x.show(5, 3, 0, 2);
        same("settle a row", x.settle(3, 5), 1);
        same("shown", x.sign(4, 1, 0), 2);
        same("a revision for one position", x.sheet(4, 4), 1);
        x.mean(4, 9, 2);
        x.mean(4, 0, 2);
        x.show(4, 1, 0, 3);
        same("settle to the lowest of three signs", x.settle(3, 5), 1);
        same("shown", x.sign(4, 1, 0), 0);
    }

    private static void promise17SettleWithoutASign() {
        MapSheets x = new MapSheets();
        x.show(0, 1, 0, 1);
        x.show(0, 1, 9, 2);
        x.mean(1, 2, 3);
        x.agree(1);
        same("a sign lacks", x.settle(0, 0), MapSheets.NOT_POSSIBLE);
        same("nothing is changed", x.sheet(1, 8), 0);
        same("no revision", x.sheet(1, 4), 1);
        same("no state", x.undo(), 3);
        same("undone was agree", x.count(4), 0);
        x.mean(1, 9, 2);
        same("the only sign", x.settle(0, 0), 2);
        same("shown", x.sign(1, 3, 9), 9);
    }

    private static void promise17SettleTouchesNoOtherEdge() {
        MapSheets x = new MapSheets();
        x.agree(1);
        x.agree(5);
        x.show(0, 1, 5, 5);
        same("settle", x.settle(0, 0), 1);
        same("others stay agreed", x.count(4), 2);
        same("others stay clean", x.count(5), 7);
        same("the other's signs", x.sheet(1, 8), 1);
    }

    private static void promise17WrongSettle() {
        MapSheets x = new MapSheets();
        for (int edge : WRONG_EDGES) {
            same("wrong edge", x.settle(edge, 0), MapSheets.INVALID_ARGUMENT);
        }
        int[] wrong = {-1, 2, 3, 4, 5, 6, LEAST, MOST};
        for (int sheet : wrong) {
            same("wrong sheet", x.settle(0, sheet), MapSheets.INVALID_ARGUMENT);
        }
        same("no change", x.count(11), 0);
    }

    private static float scaleOf(int thousandths) {
        return (float) thousandths / 1000.0f;
    }

    private static void promise18Ratio() {
        int[] scales = {1, 2, 3, 7, 10, 99, 333, 500, 980, 999, 1000, 1001, 1020, 1021, 1500, 1999, 2000,
            2001, 4000, 12345, 99999, 131072, 524288, 777777, 999999, 1000000};
        for (int first : scales) {
            for (int second : scales) {
                MapSheets x = new MapSheets();
                x.scale(0, first);
                x.scale(3, second);
                int due = Float.floatToIntBits(scaleOf(first) / scaleOf(second));
                same("ratio of " + first + " to " + second, x.ratio(4), due);
            }
        }
        MapSheets x = new MapSheets();
        for (int edge = 0; edge < 7; edge++) {
            same("ratio at first", x.ratio(edge), 1065353216);
        }
        for (int edge : WRONG_EDGES) {
            same("wrong edge", x.ratio(edge), MapSheets.INVALID_ARGUMENT);
        }
    }

    /** The ratio is a float, the quotient a double: at the border this decides. */
    private static void promise18Fits() {
        for (int tolerance = 0; tolerance <= 1000; tolerance += 7) {
            MapSheets x = new MapSheets();
            x.set(1, tolerance);
            for (int away = -1; away <= 1; away++) {
                fitsAsDue(x, 1000 + tolerance + away, tolerance);
                if (tolerance - away < 1000) {
                    fitsAsDue(x, 1000 - tolerance + away, tolerance);
                }
            }
        }
    }

    private static void fitsAsDue(MapSheets x, int thousandths, int tolerance) {
        if (thousandths < 1) {
            return;
        }
        x.scale(0, thousandths);
        double ratio = scaleOf(thousandths) / scaleOf(1000);
        int due = Math.abs(ratio - 1.0) <= tolerance / 1000.0 ? 1 : 0;
        same("fits " + thousandths + " within " + tolerance, x.edge(0, 6), due);
        same("edges that fit", x.count(10), due == 1 ? 7 : 5);
    }

    private static void promise19Publish() {
        MapSheets x = new MapSheets();
        x.grid(2, 2);
        same("no edge agreed", x.publish(0), MapSheets.NOT_POSSIBLE);
        x.agree(0);
        same("one is not agreed", x.publish(0), MapSheets.NOT_POSSIBLE);
        x.agree(2);
        x.show(0, 0, 0, 0);
        x.show(0, 3, 0, 0);
        same("publish", x.publish(0), 2);
        same("published", x.sheet(0, 5), 2);
        same("up to date", x.sheet(0, 6), 1);
        same("publish again", x.publish(0), 2);
        same("no revision", x.sheet(0, 4), 2);
        x.release(2);
        same("up to date without agreement", x.sheet(0, 6), 1);
        same("publish without agreement", x.publish(0), MapSheets.NOT_POSSIBLE);
        same("another sheet", x.sheet(1, 5), MapSheets.NOT_FOUND);
        for (int sheet : WRONG_SHEETS) {
            same("wrong sheet", x.publish(sheet), MapSheets.INVALID_ARGUMENT);
        }
        x.grid(1, 1);
        same("no edges", x.publish(0), 0);
        same("revision 0 is published", x.count(8), 1);
        same("revision 0 is up to date", x.count(9), 1);
    }

    private static void promise20Scale() {
        MapSheets x = new MapSheets();
        same("scale", x.scale(5, 1), 1000);
        same("scale", x.scale(5, 1000000), 1);
        same("scale", x.sheet(5, 7), 1000000);
        same("another", x.sheet(4, 7), 1000);
        same("no revision", x.sheet(5, 4), 0);
        same("changes", x.count(11), 2);
        for (int sheet : WRONG_SHEETS) {
            same("wrong sheet", x.scale(sheet, 1), MapSheets.INVALID_ARGUMENT);
        }
        int[] wrong = {0, -1, 1000001, LEAST, MOST};
        for (int thousandths : wrong) {
            same("wrong scale", x.scale(5, thousandths), MapSheets.INVALID_ARGUMENT);
        }
        same("scale stays", x.sheet(5, 7), 1000000);
    }

    private static void promise21Stretched() {
        MapSheets x = new MapSheets();
        int[] scales = {1, 3, 333, 999, 1000, 1001, 214748, 214749, 999999, 1000000};
        int[] units = {0, 1, 2, 3, 999, 1000, 1001, 2147483, 2147484, 9999999, 10000000};
        for (int thousandths : scales) {
            x.scale(2, thousandths);
            for (int n : units) {
                int due = (int) ((float) n * scaleOf(thousandths));
                same("stretched " + n + " by " + thousandths, x.stretched(2, n), due);
            }
        }
        same("too great", x.stretched(2, 10000000), MOST);
        same("another sheet", x.stretched(1, 12345), 12345);
        for (int sheet : WRONG_SHEETS) {
            same("wrong sheet", x.stretched(sheet, 1), MapSheets.INVALID_ARGUMENT);
        }
        int[] wrong = {-1, 10000001, LEAST, MOST};
        for (int n : wrong) {
            same("wrong units", x.stretched(0, n), MapSheets.INVALID_ARGUMENT);
        }
    }
}
