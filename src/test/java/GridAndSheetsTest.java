/** Promises 1 to 11: the grid and its sheets. */
public final class GridAndSheetsTest {
    private static final Due DUE = new Due("GridAndSheetsTest");
    private static final int LEAST = Integer.MIN_VALUE;
    private static final int MOST = Integer.MAX_VALUE;

    public static void main(String[] args) {
        promise1NewObject();
        promise2Grid();
        promise2GridLeavesSettingsAndText();
        promise3Set();
        promise4Show();
        promise4ShowAndGuard();
        promise5Erase();
        promise5EraseAndGuard();
        promise6Mean();
        promise6MeanAndGuard();
        promise7Sign();
        promise8Meaning();
        promise9Sheet();
        promise9Blocks();
        promise9BlocksOfTheLargestGrid();
        promise10Count();
        promise11Undo();
        promise11UndoRestoresEverythingButTheText();
        promise11EveryChangeIsRecorded();
        promise11EveryChangeIsTakenBack();
        promise11ErrorsLeaveAFullHistory();
        promise11WhatIsNoChange();
        DUE.finish();
    }

    private static void same(String call, long got, long want) {
        DUE.same(call, got, want);
    }

    private static void promise1NewObject() {
        MapSheets x = new MapSheets();
        int[] due = {3, 2, 6, 7, 0, 7, 0, 6, 0, 0, 7, 0, 0, 1, 20};
        for (int what = 0; what < due.length; what++) {
            same("new: count(" + what + ")", x.count(what), due[what]);
        }
        for (int sheet = 0; sheet < 6; sheet++) {
            same("new: signs", x.sheet(sheet, 8), 0);
            same("new: revision", x.sheet(sheet, 4), 0);
            same("new: published", x.sheet(sheet, 5), MapSheets.NOT_FOUND);
            same("new: scale", x.sheet(sheet, 7), 1000);
            for (int sign = 0; sign < 10; sign++) {
                same("new: meaning", x.meaning(sheet, sign), sign);
            }
        }
        for (int side = 0; side < 4; side++) {
            for (int position = 0; position < 10; position++) {
                same("new: sign", x.sign(5, side, position), MapSheets.NOT_FOUND);
            }
        }
        same("new: undo", x.undo(), MapSheets.NOT_POSSIBLE);
        same("new: fault", x.fault(), MapSheets.NOT_FOUND);
    }

    private static void promise2Grid() {
        for (int columns = 1; columns <= 6; columns++) {
            for (int rows = 1; rows <= 6; rows++) {
                MapSheets x = new MapSheets();
                int edges = (columns - 1) * rows + columns * (rows - 1);
                same("grid", x.grid(columns, rows), edges);
                same("grid: columns", x.count(0), columns);
                same("grid: rows", x.count(1), rows);
                same("grid: sheets", x.count(2), columns * rows);
                same("grid: edges", x.count(3), edges);
            }
        }
        int[][] wrong = {{0, 1}, {1, 0}, {7, 1}, {1, 7}, {-1, 3}, {3, -1}, {LEAST, MOST}, {MOST, LEAST}};
        MapSheets x = new MapSheets();
        for (int[] size : wrong) {
            same("wrong grid", x.grid(size[0], size[1]), MapSheets.INVALID_ARGUMENT);
        }
        same("wrong grid: history", x.count(11), 0);
        same("wrong grid: sheets", x.count(2), 6);
    }

    private static void promise2GridLeavesSettingsAndText() {
        MapSheets x = new MapSheets();
        x.set(0, 0);
        x.set(1, 7);
        x.show(0, 0, 0, 4);
        x.mean(0, 1, 2);
        x.scale(0, 50);
        for (int edge = 0; edge < 7; edge++) {
            x.agree(edge);
        }
        x.publish(0);
        x.type('n');
        same("grid again", x.grid(3, 2), 7);
        same("guard stays", x.count(13), 0);
        same("tolerance stays", x.count(14), 7);
        same("text stays", x.count(12), 1);
        same("agreed", x.count(4), 0);
        same("blocks", x.count(7), 6);
        same("published", x.count(8), 0);
        same("published revision", x.sheet(0, 5), MapSheets.NOT_FOUND);
        same("revision", x.sheet(0, 4), 0);
        same("scale", x.sheet(0, 7), 1000);
        same("signs", x.sheet(0, 8), 0);
        same("meaning", x.meaning(0, 1), 1);
    }

    private static void promise3Set() {
        MapSheets x = new MapSheets();
        same("set guard 0", x.set(0, 0), 1);
        same("set guard 0 again", x.set(0, 0), 0);
        same("guard", x.count(13), 0);
        same("set guard 1", x.set(0, 1), 0);
        same("set tolerance 1000", x.set(1, 1000), 20);
        same("set tolerance 0", x.set(1, 0), 1000);
        same("tolerance", x.count(14), 0);
        same("guard stays", x.count(13), 1);
        int[][] wrong = {{-1, 0}, {2, 0}, {0, -1}, {0, 2}, {1, -1}, {1, 1001}, {LEAST, 0}, {1, MOST}, {0, 1000}};
        for (int[] w : wrong) {
            same("wrong set", x.set(w[0], w[1]), MapSheets.INVALID_ARGUMENT);
        }
        same("guard after wrong sets", x.count(13), 1);
        same("tolerance after wrong sets", x.count(14), 0);
    }

    private static final int[][] WRONG_PLACES = {
        {-1, 0, 0}, {6, 0, 0}, {MOST, 0, 0}, {LEAST, 0, 0}, {0, -1, 0}, {0, 4, 0}, {0, MOST, 0},
        {0, LEAST, 0}, {0, 0, -1}, {0, 0, 10}, {0, 0, MOST}, {0, 0, LEAST}};

    private static void promise4Show() {
        MapSheets x = new MapSheets();
        for (int side = 0; side < 4; side++) {
            for (int position = 0; position < 10; position++) {
                same("show first", x.show(4, side, position, position), 10);
                same("show again", x.show(4, side, position, 9 - position), position);
                same("sign", x.sign(4, side, position), 9 - position);
            }
        }
        same("revisions", x.sheet(4, 4), 80);
        same("positions", x.sheet(4, 8), 40);
        same("others show nothing", x.sheet(1, 8) + x.sheet(3, 8) + x.sheet(5, 8), 0);
        same("show the same", x.show(4, 0, 0, 9), 9);
        same("the same is a revision too", x.sheet(4, 4), 81);
        for (int[] w : WRONG_PLACES) {
            same("wrong show", x.show(w[0], w[1], w[2], 5), MapSheets.INVALID_ARGUMENT);
        }
        int[] wrongSigns = {-1, 10, LEAST, MOST};
        for (int sign : wrongSigns) {
            same("wrong sign", x.show(0, 0, 0, sign), MapSheets.INVALID_ARGUMENT);
        }
        same("nothing shown", x.sheet(0, 8), 0);
        same("no revision", x.sheet(0, 4), 0);
    }

    private static void promise4ShowAndGuard() {
        MapSheets x = new MapSheets();
        x.show(0, 1, 2, 3);
        x.show(1, 3, 2, 3);
        x.mean(0, 4, 3);
        x.mean(0, 5, 3);
        x.agree(0);
        same("history is full", x.count(11), 4);
        same("another meaning", x.show(0, 1, 2, 6), MapSheets.NOT_POSSIBLE);
        same("one side only", x.show(1, 3, 9, 6), MapSheets.NOT_POSSIBLE);
        same("sign stays", x.sign(0, 1, 2), 3);
        same("nothing comes", x.sign(1, 3, 9), MapSheets.NOT_FOUND);
        same("no revision", x.sheet(0, 4), 3);
        same("still agreed", x.edge(0, 3), 1);
        same("the same meaning by another sign", x.show(0, 1, 2, 4), 3);
        same("still agreed then", x.edge(0, 3), 1);
        same("not at the agreed edge", x.show(0, 2, 2, 6), 10);
        same("an outer side", x.show(0, 0, 2, 6), 10);
        x.set(0, 0);
        same("meaning stays, guard off", x.show(0, 1, 2, 5), 4);
        same("agreed, guard off", x.edge(0, 3), 1);
        same("guard off", x.show(0, 1, 2, 6), 5);
        same("not agreed any more", x.edge(0, 3), 0);
        x.show(0, 1, 2, 3);
        same("does not come back", x.edge(0, 3), 0);
    }

    private static void promise5Erase() {
        MapSheets x = new MapSheets();
        same("nothing there", x.erase(2, 1, 9), MapSheets.NOT_POSSIBLE);
        same("no change", x.count(11), 0);
        x.show(2, 1, 9, 0);
        same("erase", x.erase(2, 1, 9), 0);
        same("erased", x.sign(2, 1, 9), MapSheets.NOT_FOUND);
        same("erase again", x.erase(2, 1, 9), MapSheets.NOT_POSSIBLE);
        same("revision", x.sheet(2, 4), 2);
        same("history", x.count(11), 2);
        for (int[] w : WRONG_PLACES) {
            same("wrong erase", x.erase(w[0], w[1], w[2]), MapSheets.INVALID_ARGUMENT);
        }
    }

    private static void promise5EraseAndGuard() {
        MapSheets x = new MapSheets();
        x.show(1, 2, 5, 7);
        x.show(4, 0, 5, 7);
        x.agree(5);
        same("forbidden", x.erase(4, 0, 5), MapSheets.NOT_POSSIBLE);
        same("sign stays", x.sign(4, 0, 5), 7);
        same("no revision", x.sheet(4, 4), 1);
        same("no change", x.count(11), 3);
        x.set(0, 0);
        same("guard off", x.erase(4, 0, 5), 7);
        same("not agreed", x.edge(5, 3), 0);
        same("revision", x.sheet(4, 4), 2);
        same("the other's revision", x.sheet(1, 4), 1);
    }

    private static void promise6Mean() {
        MapSheets x = new MapSheets();
        same("mean", x.mean(5, 9, 0), 9);
        same("mean again", x.mean(5, 9, 9), 0);
        same("mean the same", x.mean(5, 9, 9), 9);
        same("revision", x.sheet(5, 4), 3);
        x.mean(5, 0, 4);
        x.mean(5, 1, 4);
        same("several have one meaning", x.meaning(5, 0) * 10 + x.meaning(5, 1), 44);
        same("another sheet", x.meaning(4, 0), 0);
        int[][] wrong = {{-1, 0, 0}, {6, 0, 0}, {0, -1, 0}, {0, 10, 0}, {0, 0, -1}, {0, 0, 10},
            {MOST, 0, 0}, {0, LEAST, 0}, {0, 0, MOST}};
        for (int[] w : wrong) {
            same("wrong mean", x.mean(w[0], w[1], w[2]), MapSheets.INVALID_ARGUMENT);
        }
    }

    private static void promise6MeanAndGuard() {
        MapSheets x = new MapSheets();
        x.show(4, 3, 0, 2);
        x.show(3, 1, 0, 2);
        x.show(4, 0, 9, 2);
        x.show(1, 2, 9, 2);
        x.show(4, 1, 4, 8);
        x.show(5, 3, 4, 8);
        x.agree(2);
        x.agree(5);
        x.agree(3);
        same("forbidden", x.mean(4, 2, 3), MapSheets.NOT_POSSIBLE);
        same("meaning stays", x.meaning(4, 2), 2);
        same("no revision", x.sheet(4, 4), 3);
        same("a sign that is not shown", x.mean(4, 3, 2), 3);
        same("the same meaning", x.mean(4, 2, 2), 2);
        x.set(0, 0);
        same("guard off", x.mean(4, 2, 3), 2);
        same("agreed edges left", x.count(4), 1);
        same("west is dropped", x.edge(2, 3), 0);
        same("north is dropped", x.edge(5, 3), 0);
        same("east stays", x.edge(3, 3), 1);
    }

    private static void promise7Sign() {
        MapSheets x = new MapSheets();
        x.show(3, 2, 1, 0);
        same("sign", x.sign(3, 2, 1), 0);
        same("position beside", x.sign(3, 2, 0), MapSheets.NOT_FOUND);
        same("side beside", x.sign(3, 1, 1), MapSheets.NOT_FOUND);
        same("sheet beside", x.sign(4, 2, 1), MapSheets.NOT_FOUND);
        for (int[] w : WRONG_PLACES) {
            same("wrong place", x.sign(w[0], w[1], w[2]), MapSheets.INVALID_ARGUMENT);
        }
        x.grid(6, 6);
        x.show(35, 3, 9, 9);
        same("the last place", x.sign(35, 3, 9), 9);
        same("behind the last sheet", x.sign(36, 0, 0), MapSheets.INVALID_ARGUMENT);
    }

    private static void promise8Meaning() {
        MapSheets x = new MapSheets();
        x.mean(2, 6, 1);
        same("meaning", x.meaning(2, 6), 1);
        same("another sign", x.meaning(2, 5), 5);
        int[][] wrong = {{-1, 0}, {6, 0}, {0, -1}, {0, 10}, {MOST, 0}, {LEAST, 0}, {0, MOST}, {0, LEAST}};
        for (int[] w : wrong) {
            same("wrong meaning", x.meaning(w[0], w[1]), MapSheets.INVALID_ARGUMENT);
        }
    }

    private static void promise9Sheet() {
        MapSheets x = new MapSheets();
        x.grid(4, 3);
        int[] edgesDue = {2, 3, 3, 2, 3, 4, 4, 3, 2, 3, 3, 2};
        for (int sheet = 0; sheet < 12; sheet++) {
            same("column", x.sheet(sheet, 0), sheet % 4);
            same("row", x.sheet(sheet, 1), sheet / 4);
            same("edges", x.sheet(sheet, 2), edgesDue[sheet]);
        }
        x.agree(x.edgeAt(5, 0));
        x.agree(x.edgeAt(5, 3));
        same("agreed ones", x.sheet(5, 3), 2);
        same("agreed one of a neighbour", x.sheet(1, 3), 1);
        same("publish", x.publish(5), MapSheets.NOT_POSSIBLE);
        x.agree(x.edgeAt(5, 1));
        x.agree(x.edgeAt(5, 2));
        x.scale(5, 250);
        x.show(5, 0, 3, 1);
        same("scale", x.sheet(5, 7), 250);
        x.set(0, 0);
        x.show(5, 0, 3, 1);
        same("revision", x.sheet(5, 4), 1);
        same("signs", x.sheet(5, 8), 1);
        x.settle(x.edgeAt(5, 0), 5);
        x.agree(x.edgeAt(5, 0));
        same("publish then", x.publish(5), 1);
        same("published", x.sheet(5, 5), 1);
        same("up to date", x.sheet(5, 6), 1);
        x.mean(5, 9, 9);
        same("published stays", x.sheet(5, 5), 1);
        same("not up to date", x.sheet(5, 6), 0);
        int[][] wrong = {{-1, 0}, {12, 0}, {0, -1}, {0, 10}, {MOST, 5}, {LEAST, 5}, {0, MOST}, {0, LEAST}};
        for (int[] w : wrong) {
            same("wrong sheet", x.sheet(w[0], w[1]), MapSheets.INVALID_ARGUMENT);
        }
    }

    private static void promise9Blocks() {
        MapSheets x = new MapSheets();
        x.grid(3, 3);
        // A ring that comes to the sheet 0 from behind: 8-5, 5-4, 4-3, 3-0.
        x.agree(x.edgeAt(8, 0));
        same("8 and 5", x.sheet(8, 9), 5);
        x.agree(x.edgeAt(3, 1));
        same("3 and 4", x.sheet(4, 9), 3);
        x.agree(x.edgeAt(5, 3));
        same("8 by 5 and 4 to 3", x.sheet(8, 9), 3);
        same("blocks", x.count(7), 6);
        x.agree(x.edgeAt(0, 2));
        same("8 to 0", x.sheet(8, 9), 0);
        same("alone", x.sheet(7, 9), 7);
        same("blocks then", x.count(7), 5);
        x.agree(x.edgeAt(0, 1));
        x.agree(x.edgeAt(1, 2));
        same("a ring joins no more", x.count(7), 4);
        same("release in a ring", x.release(x.edgeAt(1, 2)), 4);
        same("release a bridge", x.release(x.edgeAt(5, 3)), 5);
        same("8 and 5 again", x.sheet(8, 9), 5);
        // 1 comes to 0 by 4 and 3 alone: the second sheet of its edge is the one with the lower block.
        x.grid(3, 3);
        x.agree(x.edgeAt(4, 0));
        x.agree(x.edgeAt(3, 1));
        x.agree(x.edgeAt(0, 2));
        for (int sheet = 0; sheet < 9; sheet++) {
            boolean joined = sheet == 0 || sheet == 1 || sheet == 3 || sheet == 4;
            same("block of " + sheet, x.sheet(sheet, 9), joined ? 0 : sheet);
        }
        same("blocks at last", x.count(7), 6);
    }

    private static void promise9BlocksOfTheLargestGrid() {
        MapSheets x = new MapSheets();
        x.grid(6, 6);
        for (int edge = 0; edge < 60; edge++) {
            same("agree", x.agree(edge), 0);
            same("agreed", x.edge(edge, 3), 1);
        }
        same("one block", x.count(7), 1);
        same("all agreed", x.count(4), 60);
        for (int sheet = 0; sheet < 36; sheet++) {
            same("lowest", x.sheet(sheet, 9), 0);
        }
        for (int sheet = 0; sheet < 36; sheet += 5) {
            same("publish", x.publish(sheet), 0);
        }
        x.show(35, 1, 0, 0);
        x.show(5, 1, 0, 0);
        same("published", x.count(8), 8);
        same("up to date", x.count(9), 6);
    }

    private static void promise10Count() {
        MapSheets x = new MapSheets();
        x.grid(2, 2);
        x.show(0, 1, 0, 1);
        x.show(0, 1, 4, 1);
        x.show(3, 3, 4, 1);
        x.scale(0, 1021);
        x.set(1, 22);
        x.agree(2);
        x.agree(3);
        x.type('n');
        x.type('n');
        int[] due = {2, 2, 4, 4, 2, 2, 3, 2, 0, 0, 4, 4, 2, 1, 22};
        for (int what = 0; what < due.length; what++) {
            same("count(" + what + ")", x.count(what), due[what]);
        }
        x.set(1, 20);
        same("fitting edges", x.count(10), 2);
        x.settle(0, 0);
        x.agree(0);
        same("publish", x.publish(0), 2);
        x.settle(1, 2);
        same("publish without all", x.publish(3), MapSheets.NOT_POSSIBLE);
        same("published", x.count(8), 1);
        same("up to date", x.count(9), 1);
        x.mean(0, 9, 8);
        same("published stays", x.count(8), 1);
        same("up to date no more", x.count(9), 0);
        int[] wrong = {-1, 15, LEAST, MOST};
        for (int what : wrong) {
            same("wrong count", x.count(what), MapSheets.INVALID_ARGUMENT);
        }
    }

    private static void promise11Undo() {
        MapSheets x = new MapSheets();
        same("empty", x.undo(), MapSheets.NOT_POSSIBLE);
        for (int sign = 0; sign < 7; sign++) {
            x.show(0, 0, 0, sign);
            same("states", x.count(11), Math.min(sign + 1, 4));
        }
        for (int left = 3; left >= 0; left--) {
            same("undo", x.undo(), left);
            same("sign", x.sign(0, 0, 0), left + 2);
            same("revision", x.sheet(0, 4), left + 3);
        }
        same("empty again", x.undo(), MapSheets.NOT_POSSIBLE);
        same("sign stays", x.sign(0, 0, 0), 2);
        x.show(0, 0, 0, 9);
        same("undo after all", x.undo(), 0);
        same("sign then", x.sign(0, 0, 0), 2);
    }

    private static void promise11UndoRestoresEverythingButTheText() {
        MapSheets x = new MapSheets();
        x.grid(2, 3);
        x.set(0, 0);
        x.set(1, 33);
        x.show(1, 2, 3, 4);
        x.mean(1, 4, 8);
        x.scale(1, 77);
        x.agree(0);
        x.agree(2);
        x.agree(3);
        x.publish(0);
        x.type('e');
        x.grid(5, 4);
        x.type('0');
        x.set(0, 1);
        x.set(1, 1);
        same("undo set", x.undo(), 3);
        same("undo set", x.undo(), 2);
        same("undo grid", x.undo(), 1);
        same("columns", x.count(0), 2);
        same("rows", x.count(1), 3);
        same("guard", x.count(13), 0);
        same("tolerance", x.count(14), 33);
        same("sign", x.sign(1, 2, 3), 4);
        same("meaning", x.meaning(1, 4), 8);
        same("scale", x.sheet(1, 7), 77);
        same("agreed", x.count(4), 3);
        same("revision", x.sheet(1, 4), 2);
        same("published", x.sheet(0, 5), 0);
        same("text", x.count(12), 2);
        same("undo publish", x.undo(), 0);
        same("not published", x.sheet(0, 5), MapSheets.NOT_FOUND);
    }

    private static void recorded(String call, MapSheets x, int answer, int due) {
        same(call, answer, due);
        same(call + " is recorded", x.count(11), 2);
        same(call + " is undone", x.undo(), 1);
    }

    private static void promise11EveryChangeIsRecorded() {
        MapSheets x = new MapSheets();
        x.grid(3, 1);
        recorded("grid", x, x.grid(3, 1), 2);
        recorded("set", x, x.set(0, 1), 1);
        recorded("show", x, x.show(0, 0, 0, 0), 10);
        recorded("mean", x, x.mean(0, 0, 0), 0);
        recorded("agree", x, x.agree(0), 0);
        recorded("settle", x, x.settle(0, 0), 0);
        recorded("scale", x, x.scale(0, 1000), 1000);
        recorded("read of an empty text", x, x.read(0), 0);
        x.type('n');
        x.type('0');
        x.type('-');
        x.type(';');
        recorded("read", x, x.read(0), 1);
        x.show(0, 0, 0, 3);
        same("erase", x.erase(0, 0, 0), 3);
        same("erase is recorded", x.undo(), 2);
        same("erase is undone", x.sign(0, 0, 0), 3);
        x.undo();
        x.agree(0);
        same("agree again", x.agree(0), 1);
        same("agree again is recorded", x.undo(), 2);
        same("publish", x.publish(0), 0);
        same("publish is recorded", x.undo(), 2);
        same("release", x.release(0), 3);
        same("release is recorded", x.undo(), 2);
        same("release is undone", x.edge(0, 3), 1);
    }

    private static void promise11EveryChangeIsTakenBack() {
        MapSheets x = new MapSheets();
        x.set(0, 0);
        x.undo();
        same("set is undone", x.count(13), 1);
        x.set(1, 5);
        x.set(1, 6);
        x.undo();
        same("set is undone", x.count(14), 5);
        x.undo();
        same("set is undone", x.count(14), 20);
        x.scale(5, 5);
        x.scale(5, 6);
        x.undo();
        same("scale is undone", x.sheet(5, 7), 5);
        x.undo();
        same("scale is undone", x.sheet(5, 7), 1000);
        x.mean(5, 5, 6);
        x.undo();
        same("mean is undone", x.meaning(5, 5), 5);
        same("its revision too", x.sheet(5, 4), 0);
        x.agree(6);
        x.undo();
        same("agree is undone", x.edge(6, 3), 0);
        x.agree(6);
        x.agree(3);
        x.release(6);
        x.undo();
        same("release is undone", x.edge(6, 3), 1);
        x.publish(5);
        x.undo();
        same("publish is undone", x.sheet(5, 5), MapSheets.NOT_FOUND);
        x.publish(5);
        x.show(5, 2, 0, 0);
        x.publish(5);
        x.undo();
        same("the second publish is undone", x.sheet(5, 5), 0);
        x.grid(1, 1);
        x.undo();
        same("grid is undone", x.count(4), 2);
        same("its signs come back", x.sign(5, 2, 0), 0);
    }

    /** What is not possible leaves even the oldest state of a full history as it is. */
    private static void promise11ErrorsLeaveAFullHistory() {
        MapSheets x = new MapSheets();
        x.agree(0);
        x.mean(4, 8, 0);
        x.show(3, 1, 0, 8);
        for (int sign = 0; sign < 5; sign++) {
            x.show(3, 3, 0, sign);
        }
        String text = "e0=1;";
        for (int i = 0; i < text.length(); i++) {
            x.type(text.charAt(i));
        }
        same("full", x.count(11), 4);
        same("forbidden show", x.show(0, 1, 0, 0), MapSheets.NOT_POSSIBLE);
        same("forbidden read", x.read(0), MapSheets.NOT_POSSIBLE);
        same("nothing to erase", x.erase(0, 0, 0), MapSheets.NOT_POSSIBLE);
        same("a sign lacks", x.settle(2, 3), MapSheets.NOT_POSSIBLE);
        same("full still", x.count(11), 4);
        for (int left = 3; left >= 0; left--) {
            same("undo", x.undo(), left);
            same("sign", x.sign(3, 3, 0), left);
            same("still agreed", x.edge(0, 3), 1);
        }
    }

    private static void promise11WhatIsNoChange() {
        MapSheets x = new MapSheets();
        x.show(0, 1, 0, 1);
        x.undo();
        x.type('n');
        x.clearText();
        x.type('x');
        x.fault();
        x.read(0);
        x.read(6);
        x.erase(0, 0, 0);
        x.grid(0, 0);
        x.set(0, 2);
        x.show(0, 0, 0, 10);
        x.mean(0, 0, 10);
        x.release(0);
        x.agree(7);
        x.settle(0, 5);
        x.publish(0);
        x.scale(0, 0);
        x.ratio(0);
        x.stretched(0, 5);
        x.edge(0, 0);
        x.edgeAt(0, 0);
        x.quarrel(0, 0, 0);
        same("no changes", x.count(11), 0);
    }
}
