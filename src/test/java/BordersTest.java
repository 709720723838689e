/**
 * What the document calls the least and the most: the smallest and the greatest grid, what is empty and what is full,
 * the first and the last position, outer sides, and numbers at the edges of float, double and int.
 */
public final class BordersTest {
    private static final Due DUE = new Due("BordersTest");
    private static final int MOST = Integer.MAX_VALUE;

    public static void main(String[] args) {
        theSmallestGrid();
        theGreatestGrid();
        everySheetOfEveryGrid();
        gridBeginsAllAnew();
        outerSidesHaveNoQuarrels();
        otherSidesDoNotTouchAnEdge();
        theFirstAndTheLastPosition();
        aSideThatShowsNothing();
        fullSides();
        settleAllTenPositions();
        settleNeedsOnlyTheSignsThatCross();
        settleWithOneMeaningOfTenSigns();
        settleKeepsASignThatMeansTheSame();
        settleAndTheOthersPublishedRevision();
        revisionsOfFourHundredCalls();
        upToDateAgainAfterUndo();
        theHistoryDropsTheOldest();
        theTextAtItsLimit();
        theTextBehindAClearedOne();
        readOfEveryPlace();
        scalesThatFitJustSo();
        scalesInFloatAndDouble();
        ratiosInFloat();
        lengthsInFloat();
        lengthsThatAreTooGreat();
        DUE.finish();
    }

    private static void same(String call, long got, long want) {
        DUE.same(call, got, want);
    }

    private static void countsAre(String when, MapSheets x, int... due) {
        for (int what = 0; what < due.length; what++) {
            same(when + ": count(" + what + ")", x.count(what), due[what]);
        }
    }

    private static void sheetIs(MapSheets x, int sheet, int... due) {
        for (int what = 0; what < due.length; what++) {
            same("sheet(" + sheet + ", " + what + ")", x.sheet(sheet, what), due[what]);
        }
    }

    private static void theSmallestGrid() {
        MapSheets x = new MapSheets();
        same("grid", x.grid(1, 1), 0);
        countsAre("1 by 1", x, 1, 1, 1, 0, 0, 0, 0, 1, 0, 0, 0, 1, 0, 1, 20);
        sheetIs(x, 0, 0, 0, 0, 0, 0, MapSheets.NOT_FOUND, 0, 1000, 0, 0);
        same("show", x.show(0, 1, 9, 9), 10);
        same("publish", x.publish(0), 1);
        sheetIs(x, 0, 0, 0, 0, 0, 1, 1, 1, 1000, 1, 0);
        countsAre("1 by 1", x, 1, 1, 1, 0, 0, 0, 0, 1, 1, 1, 0, 3, 0, 1, 20);
        same("no edge to release", x.release(0), MapSheets.INVALID_ARGUMENT);
        same("no edge to settle", x.settle(0, 0), MapSheets.INVALID_ARGUMENT);
    }

    private static void theGreatestGrid() {
        MapSheets x = new MapSheets();
        same("grid", x.grid(6, 6), 60);
        countsAre("6 by 6", x, 6, 6, 36, 60, 0, 60, 0, 36, 0, 0, 60, 1, 0, 1, 20);
        for (int sheet = 0; sheet < 36; sheet++) {
            for (int sign = 0; sign < 10; sign++) {
                same("meaning in " + sheet, x.meaning(sheet, sign), sign);
            }
        }
        same("show", x.show(35, 0, 9, 9), 10);
        same("the last edge", x.quarrel(59, 0, 0), 9);
        same("its first sheet shows nothing", x.quarrel(59, 0, 2), MapSheets.NOT_FOUND);
        same("its second one does", x.quarrel(59, 0, 3), 9);
        same("settle the last edge", x.settle(59, 35), 1);
        same("agree the last edge", x.agree(59), 0);
        same("the guard at the last edge", x.erase(29, 2, 9), MapSheets.NOT_POSSIBLE);
        same("the block of the last sheet", x.sheet(35, 9), 29);
        same("scale of the last sheet", x.scale(35, 1000000), 1000);
        same("edges that fit", x.count(10), 58);
    }

    private static void everySheetOfEveryGrid() {
        for (int columns = 1; columns <= 6; columns++) {
            for (int rows = 1; rows <= 6; rows++) {
                MapSheets x = new MapSheets();
                x.grid(columns, rows);
                int outer = 0;
                for (int sheet = 0; sheet < columns * rows; sheet++) {
                    int column = sheet % columns;
                    int row = sheet / columns;
                    boolean[] isInner = {row > 0, column < columns - 1, row < rows - 1, column > 0};
                    int edges = 0;
                    for (int side = 0; side < 4; side++) {
                        edges += isInner[side] ? 1 : 0;
                        outer += isInner[side] ? 0 : 1;
                        same("inner side", x.edgeAt(sheet, side) == MapSheets.NOT_FOUND ? 0 : 1, isInner[side] ? 1 : 0);
                    }
                    sheetIs(x, sheet, column, row, edges, 0, 0, MapSheets.NOT_FOUND, 0, 1000, 0, sheet);
                }
                same("outer sides", outer, 2 * columns + 2 * rows);
            }
        }
    }

    private static void gridBeginsAllAnew() {
        MapSheets filled = new MapSheets();
        changeAll(filled);
        countsAre("before", filled, 6, 2, 12, 16, 16, 16, 0, 1, 12, 0, 0, 4, 6, 0, 7);
        int[][] sizes = {{1, 1}, {2, 2}, {3, 2}, {6, 6}};
        for (int[] size : sizes) {
            Whole.same(DUE, "grid after much else", x -> {
                changeAll(x);
                beginAnew(x, size);
            }, x -> {
                x.set(0, 0);
                x.set(1, 7);
                Whole.type(x, "n0=5;e");
                beginAnew(x, size);
            });
        }
    }

    /** Five times, so that nothing of what was before is left in the history. */
    private static void beginAnew(MapSheets x, int[] size) {
        for (int i = 0; i < 5; i++) {
            x.grid(size[0], size[1]);
        }
    }

    /** Everything of each sheet is other than at first, and all edges are agreed. */
    private static void changeAll(MapSheets x) {
        x.grid(6, 2);
        x.set(0, 0);
        for (int edge = 0; edge < 16; edge++) {
            x.agree(edge);
        }
        for (int sheet = 0; sheet < 12; sheet++) {
            x.publish(sheet);
        }
        for (int sheet = 0; sheet < 12; sheet++) {
            x.scale(sheet, 1 + sheet);
            for (int sign = 0; sign < 10; sign++) {
                x.mean(sheet, sign, (sign + 1) % 10);
            }
            for (int side = 0; side < 4; side++) {
                x.show(sheet, side, sheet % 10, 9);
            }
        }
        for (int edge = 0; edge < 16; edge++) {
            x.settle(edge, x.edge(edge, 0));
            x.agree(edge);
        }
        x.set(1, 7);
        Whole.type(x, "n0=5;e");
    }

    private static void outerSidesHaveNoQuarrels() {
        int[][] sizes = {{1, 1}, {1, 6}, {6, 1}, {3, 2}, {6, 6}};
        for (int[] size : sizes) {
            MapSheets x = new MapSheets();
            int edges = x.grid(size[0], size[1]);
            int shown = 0;
            for (int sheet = 0; sheet < size[0] * size[1]; sheet++) {
                for (int side = 0; side < 4; side++) {
                    if (x.edgeAt(sheet, side) == MapSheets.NOT_FOUND) {
                        x.show(sheet, side, 0, 3);
                        x.show(sheet, side, 9, 4);
                        shown += 2;
                    }
                }
            }
            same("signs", shown, 4 * size[0] + 4 * size[1]);
            same("clean edges", x.count(5), edges);
            same("quarrels", x.count(6), 0);
            for (int edge = 0; edge < edges; edge++) {
                same("agree", x.agree(edge), 0);
            }
            same("the guard leaves an outer side alone", x.erase(0, 0, 0), 3);
            same("and its meanings", x.mean(0, 4, 3), 4);
            same("one block", x.count(7), 1);
        }
    }

    private static void otherSidesDoNotTouchAnEdge() {
        for (int edge = 0; edge < 12; edge++) {
            MapSheets x = new MapSheets();
            x.grid(3, 3);
            int first = x.edge(edge, 0);
            int second = x.edge(edge, 1);
            for (int i = 0; i < 40; i++) {
                if (x.edgeAt(first, i / 10) != edge) {
                    x.show(first, i / 10, i % 10, 3);
                }
                if (x.edgeAt(second, i / 10) != edge) {
                    x.show(second, i / 10, i % 10, 4);
                }
            }
            same("signs of the first", x.sheet(first, 8), 30);
            same("signs of the second", x.sheet(second, 8), 30);
            same("quarrels", x.edge(edge, 4), 0);
            same("both show", x.edge(edge, 5), 0);
            same("no quarrel", x.quarrel(edge, 0, 0), MapSheets.NOT_FOUND);
            same("settle from the first", x.settle(edge, first), 0);
            same("settle from the second", x.settle(edge, second), 0);
            same("agree", x.agree(edge), 0);
            same("show at another edge", x.show(first, x.edge(edge, 2) == 1 ? 2 : 1, 9, 5), 3);
        }
    }

    private static void theFirstAndTheLastPosition() {
        for (int edge = 0; edge < 7; edge++) {
            for (int position = 0; position < 10; position += 9) {
                MapSheets x = new MapSheets();
                int first = x.edge(edge, 0);
                int second = x.edge(edge, 1);
                int side = x.edge(edge, 2);
                x.show(first, side, position, 0);
                same("quarrels", x.edge(edge, 4), 1);
                same("both show", x.edge(edge, 5), 0);
                same("position", x.quarrel(edge, 0, 0), position);
                same("reason", x.quarrel(edge, 0, 1), 1);
                x.show(second, (side + 2) % 4, position, 9);
                same("both show then", x.edge(edge, 5), 1);
                same("position then", x.quarrel(edge, 0, 0), position);
                same("reason then", x.quarrel(edge, 0, 1), 2);
                same("the first means", x.quarrel(edge, 0, 2), 0);
                same("the second means", x.quarrel(edge, 0, 3), 9);
                same("quarrels of all", x.count(6), 1);
                same("clean edges", x.count(5), 6);
                same("settle", x.settle(edge, second), 1);
                same("the sign", x.sign(first, side, position), 9);
            }
        }
    }

    private static void aSideThatShowsNothing() {
        MapSheets x = new MapSheets();
        for (int position = 0; position < 10; position++) {
            x.show(0, 1, position, 9 - position);
        }
        same("quarrels with nothing", x.edge(0, 4), 10);
        same("both show", x.edge(0, 5), 0);
        for (int index = 0; index < 10; index++) {
            same("position", x.quarrel(0, index, 0), index);
            same("reason", x.quarrel(0, index, 1), 1);
            same("the first means", x.quarrel(0, index, 2), 9 - index);
            same("the second means", x.quarrel(0, index, 3), MapSheets.NOT_FOUND);
        }
        same("no eleventh one", x.quarrel(0, 10, 0), MapSheets.NOT_FOUND);
        same("settle from what shows nothing", x.settle(0, 1), 10);
        same("signs", x.sheet(0, 8), 0);
        same("both show nothing", x.edge(0, 5), 0);
        same("clean", x.edge(0, 4), 0);
        same("settle nothing from nothing", x.settle(0, 0), 0);
        same("agree", x.agree(0), 0);
    }

    private static void fullSides() {
        MapSheets x = new MapSheets();
        for (int i = 0; i < 40; i++) {
            x.show(1, i / 10, i % 10, i % 10);
            x.show(2, i / 10, i % 10, i % 10);
        }
        same("all four sides", x.sheet(1, 8), 40);
        same("both show", x.edge(1, 5), 10);
        same("clean", x.edge(1, 4), 0);
        same("quarrels of all", x.count(6), 30);
        same("clean edges", x.count(5), 4);
        for (int position = 0; position < 10; position++) {
            x.mean(2, position, (position + 1) % 10);
        }
        same("ten other meanings", x.edge(1, 4), 10);
        same("both show all the same", x.edge(1, 5), 10);
    }

    private static void settleAllTenPositions() {
        for (int edge = 0; edge < 7; edge++) {
            for (int what = 0; what < 2; what++) {
                MapSheets x = new MapSheets();
                int from = x.edge(edge, what);
                int to = x.edge(edge, 1 - what);
                int side = what == 0 ? x.edge(edge, 2) : (x.edge(edge, 2) + 2) % 4;
                for (int position = 0; position < 10; position++) {
                    x.show(from, side, position, position);
                    x.mean(to, position, 9 - position);
                }
                same("settle", x.settle(edge, from), 10);
                for (int position = 0; position < 10; position++) {
                    same("sign", x.sign(to, (side + 2) % 4, position), 9 - position);
                }
                same("revision", x.sheet(to, 4), 11);
                same("revision of the other", x.sheet(from, 4), 10);
                same("signs", x.sheet(to, 8), 10);
                same("settle back", x.settle(edge, to), 0);
            }
        }
    }

    private static void settleNeedsOnlyTheSignsThatCross() {
        MapSheets x = new MapSheets();
        for (int sign = 0; sign < 10; sign++) {
            x.mean(1, sign, 7);
        }
        x.show(1, 3, 2, 2);
        x.show(1, 3, 9, 9);
        x.show(0, 1, 9, 7);
        same("one is erased, one stays", x.settle(0, 0), 1);
        same("erased", x.sign(1, 3, 2), MapSheets.NOT_FOUND);
        same("stays", x.sign(1, 3, 9), 9);
        x.show(0, 1, 0, 6);
        same("a sign lacks", x.settle(0, 0), MapSheets.NOT_POSSIBLE);
        same("none lacks from the other one", x.settle(0, 1), 1);
    }

    private static void settleWithOneMeaningOfTenSigns() {
        MapSheets x = new MapSheets();
        for (int sign = 0; sign < 10; sign++) {
            x.mean(4, sign, 0);
        }
        x.show(1, 2, 0, 0);
        x.show(1, 2, 9, 0);
        same("settle", x.settle(5, 1), 2);
        same("the lowest", x.sign(4, 0, 0) + x.sign(4, 0, 9), 0);
        x.mean(4, 0, 5);
        same("settle then", x.settle(5, 1), 2);
        same("the lowest then", x.sign(4, 0, 0) + x.sign(4, 0, 9), 2);
    }

    private static void settleKeepsASignThatMeansTheSame() {
        MapSheets x = new MapSheets();
        x.mean(3, 9, 2);
        x.show(3, 0, 0, 9);
        x.show(3, 0, 9, 9);
        x.show(0, 2, 0, 2);
        x.show(0, 2, 9, 2);
        x.show(0, 2, 5, 2);
        same("only what differs", x.settle(4, 0), 1);
        same("the highest sign stays", x.sign(3, 0, 0), 9);
        same("at the last position too", x.sign(3, 0, 9), 9);
        same("the lowest is taken", x.sign(3, 0, 5), 2);
    }

    private static void settleAndTheOthersPublishedRevision() {
        MapSheets x = new MapSheets();
        x.grid(2, 1);
        x.agree(0);
        same("publish", x.publish(0) + x.publish(1), 0);
        same("settle of nothing", x.settle(0, 0), 0);
        same("both are up to date", x.count(9), 2);
        x.set(0, 0);
        x.show(0, 1, 5, 5);
        same("one is not", x.count(9), 1);
        same("settle", x.settle(0, 0), 1);
        same("none is", x.count(9), 0);
        same("the other's revision", x.sheet(1, 4), 1);
        same("both have a published revision", x.count(8), 2);
        same("settle does not agree", x.publish(1), MapSheets.NOT_POSSIBLE);
        x.agree(0);
        same("publish then", x.publish(1), 1);
        same("the published one", x.sheet(1, 5), 1);
        same("up to date", x.sheet(1, 6), 1);
    }

    private static void revisionsOfFourHundredCalls() {
        MapSheets x = new MapSheets();
        x.grid(1, 1);
        for (int i = 0; i < 400; i++) {
            x.show(0, i % 4, i % 10, i % 7);
        }
        same("revision", x.sheet(0, 4), 400);
        same("publish", x.publish(0), 400);
        same("published", x.sheet(0, 5), 400);
        for (int i = 0; i < 100; i++) {
            x.mean(0, 9, 9);
        }
        same("revision then", x.sheet(0, 4), 500);
        same("published then", x.sheet(0, 5), 400);
    }

    private static void upToDateAgainAfterUndo() {
        MapSheets x = new MapSheets();
        x.grid(1, 1);
        x.publish(0);
        x.show(0, 0, 0, 0);
        same("not up to date", x.sheet(0, 6) + x.count(9), 0);
        x.undo();
        same("up to date", x.sheet(0, 6) + x.count(9), 2);
        same("scale is no revision", x.scale(0, 1) + x.sheet(0, 6), 1001);
    }

    private static void theHistoryDropsTheOldest() {
        for (int changes = 0; changes <= 12; changes++) {
            MapSheets x = new MapSheets();
            for (int i = 0; i < changes; i++) {
                x.set(1, 100 + i);
            }
            int states = Math.min(changes, 4);
            same("states after " + changes, x.count(11), states);
            for (int left = states - 1; left >= 0; left--) {
                same("undo", x.undo(), left);
                int done = changes - states + left;
                same("tolerance", x.count(14), done == 0 ? 20 : 99 + done);
            }
            same("no more", x.undo(), MapSheets.NOT_POSSIBLE);
        }
    }

    private static void textIs(String text, int fault, int taken) {
        MapSheets x = new MapSheets();
        Whole.type(x, text);
        same("length", x.count(12), text.length());
        same("fault of " + text, x.fault(), fault);
        same("read of " + text, x.read(0), taken);
        same("the text stays", x.count(12), text.length());
    }

    private static void theTextAtItsLimit() {
        String items = "n0=1;".repeat(19);
        textIs("s9-;".repeat(25), MapSheets.NOT_FOUND, 25);
        textIs(items + "w9=9;", MapSheets.NOT_FOUND, 20);
        textIs(items + "w9-;n", 100, MapSheets.NOT_POSSIBLE);
        textIs(items + "w9=99", 99, MapSheets.NOT_POSSIBLE);
        textIs(items + "w9-;;", 99, MapSheets.NOT_POSSIBLE);
        textIs(items + "w9-; ", 99, MapSheets.NOT_POSSIBLE);
        textIs(items + "w9-;~", 99, MapSheets.NOT_POSSIBLE);
        textIs(" ".repeat(100), 0, MapSheets.NOT_POSSIBLE);
        MapSheets x = new MapSheets();
        Whole.type(x, items + "w9=9;");
        x.type('?');
        same("what is too much is not there", x.fault(), MapSheets.NOT_FOUND);
        same("read", x.read(0), 20);
        same("the last sign", x.sign(0, 3, 9), 9);
    }

    private static void theTextBehindAClearedOne() {
        MapSheets x = new MapSheets();
        Whole.type(x, "n0=1;n1=1;n2=1;");
        same("clear", x.clearText(), 15);
        same("no fault in an empty one", x.fault(), MapSheets.NOT_FOUND);
        same("read of an empty one", x.read(0), 0);
        same("nothing is taken", x.sheet(0, 8), 0);
        Whole.type(x, "e3=2;");
        same("no fault", x.fault(), MapSheets.NOT_FOUND);
        same("read", x.read(0), 1);
        same("one sign", x.sheet(0, 8), 1);
        x.clearText();
        Whole.type(x, "n0");
        same("too early", x.fault(), 2);
    }

    private static void readOfEveryPlace() {
        for (int side = 0; side < 4; side++) {
            for (int position = 0; position < 10; position++) {
                MapSheets x = new MapSheets();
                String place = "nesw".charAt(side) + "" + position;
                Whole.type(x, place + "=" + (9 - position) + ";");
                same("read", x.read(5), 1);
                same("sign at " + place, x.sign(5, side, position), 9 - position);
                same("signs", x.sheet(5, 8), 1);
                Whole.type(x, place + "-;");
                same("read", x.read(5), 2);
                same("signs then", x.sheet(5, 8), 0);
                same("revision", x.sheet(5, 4), 2);
            }
        }
    }

    private static void fits(int first, int second, int tolerance, int due) {
        MapSheets x = new MapSheets();
        x.scale(0, first);
        x.scale(1, second);
        x.scale(3, second);
        x.set(1, tolerance);
        same("fits " + first + " to " + second + " within " + tolerance, x.edge(0, 6), due);
        same("in a column too", x.edge(4, 6), due);
    }

    private static void scalesThatFitJustSo() {
        fits(1, 1, 0, 1);
        fits(1000000, 1000000, 0, 1);
        fits(333772, 333772, 0, 1);
        fits(1000000, 999999, 0, 0);
        fits(999999, 1000000, 0, 0);
        fits(2, 1, 1000, 1);
        fits(1000000, 500000, 1000, 1);
        fits(1000000, 499999, 1000, 0);
        fits(2, 1, 999, 0);
        fits(1, 1000000, 1000, 1);
        fits(1, 1000000, 999, 0);
        fits(1000000, 1, 1000, 0);
        fits(429242, 312176, 375, 1);
        fits(429242, 312176, 374, 0);
        fits(1, 2, 500, 1);
        fits(1, 2, 499, 0);
    }

    /** Each of these would be answered otherwise if one step were made in the other kind of number. */
    private static void scalesInFloatAndDouble() {
        // The ratio and the scales in double.
        fits(2184, 1500, 456, 1);
        fits(490300, 535847, 85, 1);
        fits(227963, 353431, 355, 0);
        // The difference in float.
        fits(265, 1250, 788, 0);
        fits(281979, 836733, 663, 0);
        // The quotient of the tolerance in float.
        fits(600138, 547072, 97, 0);
        fits(2418, 1300, 860, 0);
        // The thousandths themselves instead of the scales.
        fits(995068, 818986, 215, 1);
        fits(547845, 635551, 138, 0);
    }

    private static void ratiosInFloat() {
        int[][] scales = {{126109, 21373}, {154607, 479720}, {560417, 919068}, {438589, 420403}, {1, 1000000},
            {1000000, 1}, {1, 1}, {999999, 1000000}, {1000000, 999999}};
        for (int[] pair : scales) {
            float first = (float) pair[0] / 1000.0f;
            float second = (float) pair[1] / 1000.0f;
            MapSheets x = new MapSheets();
            x.scale(4, pair[0]);
            x.scale(5, pair[1]);
            x.scale(1, pair[1]);
            same("ratio in a row", x.ratio(3), Float.floatToIntBits(first / second));
            same("ratio in a column", x.ratio(5), Float.floatToIntBits(second / first));
        }
    }

    private static void stretchedIs(int units, int thousandths, int due) {
        MapSheets x = new MapSheets();
        x.scale(2, thousandths);
        same("stretched " + units + " by " + thousandths, x.stretched(2, units), due);
    }

    private static void lengthsInFloat() {
        stretchedIs(0, 1000000, 0);
        stretchedIs(0, 1, 0);
        stretchedIs(999, 1, 0);
        stretchedIs(1000, 1, 1);
        stretchedIs(10000000, 1, 10000);
        stretchedIs(10000000, 1000, 10000000);
        stretchedIs(9999999, 1000, 9999999);
        stretchedIs(3777526, 768, 2901140);
        stretchedIs(8890750, 493, 4383140);
        stretchedIs(7183576, 795, 5710943);
        stretchedIs(9235675, 511, 4719429);
        stretchedIs(5108823, 932, 4761423);
    }

    private static void lengthsThatAreTooGreat() {
        stretchedIs(10000000, 1000000, MOST);
        stretchedIs(4194304, 512000, MOST);
        stretchedIs(8388608, 256000, MOST);
        stretchedIs(8388607, 256000, 2147483392);
        stretchedIs(9999970, 214749, 2147483520);
        stretchedIs(9999877, 214751, MOST);
        stretchedIs(2147483, 1000000, 2147483008);
        stretchedIs(2147484, 1000000, MOST);
    }
}
