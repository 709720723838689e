import java.util.Arrays;
import java.util.List;

/**
 * The ranges of all arguments of all calls, on the smallest, the first and the greatest grid, and on a row and a
 * column of sheets: both ends, the values just outside, and the smallest and the greatest int.
 */
public final class RangesTest {
    private static final Due DUE = new Due("RangesTest");
    private static final int LEAST = Integer.MIN_VALUE;
    private static final int MOST = Integer.MAX_VALUE;
    private static final int[][] GRIDS = {{1, 1}, {3, 2}, {6, 6}, {6, 1}, {1, 6}};

    private interface Call {
        int on(MapSheets x, int[] arguments);
    }

    /** A call, with the least and the most value of each of its arguments. */
    private record Face(String name, Call call, int[] least, int[] most) {
        String told(int[] arguments) {
            return name + " " + Arrays.toString(arguments);
        }
    }

    public static void main(String[] args) {
        for (int[] grid : GRIDS) {
            for (Face face : facesFor(grid[0], grid[1])) {
                insideItsRanges(face, grid);
                outsideItsRanges(face, grid);
            }
            settleIsOfTwoSheetsAlone(grid);
        }
        numbersBehindASmallerGrid();
        DUE.finish();
    }

    private static int[] of(int... values) {
        return values;
    }

    private static List<Face> facesFor(int columns, int rows) {
        int s = columns * rows - 1;
        int e = (columns - 1) * rows + columns * (rows - 1) - 1;
        return List.of(
            new Face("grid", (x, a) -> x.grid(a[0], a[1]), of(1, 1), of(6, 6)),
            new Face("set", (x, a) -> x.set(a[0], 0), of(0), of(1)),
            new Face("set of the guard", (x, a) -> x.set(0, a[0]), of(0), of(1)),
            new Face("set of the tolerance", (x, a) -> x.set(1, a[0]), of(0), of(1000)),
            new Face("show", (x, a) -> x.show(a[0], a[1], a[2], a[3]), of(0, 0, 0, 0), of(s, 3, 9, 9)),
            new Face("erase", (x, a) -> x.erase(a[0], a[1], a[2]), of(0, 0, 0), of(s, 3, 9)),
            new Face("mean", (x, a) -> x.mean(a[0], a[1], a[2]), of(0, 0, 0), of(s, 9, 9)),
            new Face("sign", (x, a) -> x.sign(a[0], a[1], a[2]), of(0, 0, 0), of(s, 3, 9)),
            new Face("meaning", (x, a) -> x.meaning(a[0], a[1]), of(0, 0), of(s, 9)),
            new Face("sheet", (x, a) -> x.sheet(a[0], a[1]), of(0, 0), of(s, 9)),
            new Face("count", (x, a) -> x.count(a[0]), of(0), of(14)),
            new Face("edge", (x, a) -> x.edge(a[0], a[1]), of(0, 0), of(e, 6)),
            new Face("edgeAt", (x, a) -> x.edgeAt(a[0], a[1]), of(0, 0), of(s, 3)),
            new Face("quarrel", (x, a) -> x.quarrel(a[0], a[1], a[2]), of(0, 0, 0), of(e, MOST, 3)),
            new Face("agree", (x, a) -> x.agree(a[0]), of(0), of(e)),
            new Face("release", (x, a) -> x.release(a[0]), of(0), of(e)),
            new Face("settle from the first", (x, a) -> x.settle(a[0], Math.max(0, x.edge(a[0], 0))), of(0), of(e)),
            new Face("settle from the second", (x, a) -> x.settle(a[0], Math.max(0, x.edge(a[0], 1))), of(0), of(e)),
            new Face("ratio", (x, a) -> x.ratio(a[0]), of(0), of(e)),
            new Face("publish", (x, a) -> x.publish(a[0]), of(0), of(s)),
            new Face("scale", (x, a) -> x.scale(a[0], a[1]), of(0, 1), of(s, 1000000)),
            new Face("stretched", (x, a) -> x.stretched(a[0], a[1]), of(0, 0), of(s, 10000000)),
            new Face("type", (x, a) -> x.type(a[0]), of(32), of(126)),
            new Face("read", (x, a) -> x.read(a[0]), of(0), of(s)));
    }

    /** Something of each kind, so that a wrong call has much that it could change. */
    private static void fill(MapSheets x, int[] grid) {
        int last = grid[0] * grid[1] - 1;
        x.grid(grid[0], grid[1]);
        x.set(1, 33);
        x.show(0, 3, 0, 4);
        x.show(0, 1, 9, 4);
        x.show(last, 0, 0, 3);
        x.show(last, 1, 9, 7);
        x.mean(0, 9, 8);
        int edges = x.count(3);
        for (int edge = 0; edge < edges; edge++) {
            x.agree(edge);
        }
        Whole.type(x, "n0=5;e9-;w9=0;");
        x.publish(last);
        x.publish(0);
        x.scale(0, 2000);
        x.scale(last, 500);
    }

    private static void insideItsRanges(Face face, int[] grid) {
        int count = face.least.length;
        if (face.most[0] < face.least[0]) {
            return;
        }
        for (int corner = 0; corner < 1 << count; corner++) {
            int[] arguments = face.least.clone();
            for (int i = 0; i < count; i++) {
                arguments[i] = (corner >> i & 1) == 1 ? face.most[i] : face.least[i];
            }
            MapSheets x = new MapSheets();
            x.grid(grid[0], grid[1]);
            DUE.holds(face.told(arguments) + " is within",
                face.call.on(x, arguments) != MapSheets.INVALID_ARGUMENT);
        }
    }

    private static void outsideItsRanges(Face face, int[] grid) {
        MapSheets x = new MapSheets();
        fill(x, grid);
        callOutside(face, x);
        Whole.same(DUE, face.name + " outside its ranges", y -> {
            fill(y, grid);
            callOutside(face, y);
        }, y -> fill(y, grid));
    }

    private static void callOutside(Face face, MapSheets x) {
        for (int i = 0; i < face.least.length; i++) {
            int[] wrong = {LEAST, face.least[i] - 1, face.most[i] == MOST ? -1 : face.most[i] + 1,
                face.most[i] == MOST ? LEAST : MOST};
            for (int value : wrong) {
                callWith(face, x, face.least, i, value);
                callWith(face, x, face.most, i, value);
            }
        }
    }

    private static void callWith(Face face, MapSheets x, int[] others, int place, int value) {
        int[] arguments = others.clone();
        arguments[place] = value;
        DUE.same(face.told(arguments), face.call.on(x, arguments), MapSheets.INVALID_ARGUMENT);
    }

    private static void settleIsOfTwoSheetsAlone(int[] grid) {
        int edges = (grid[0] - 1) * grid[1] + grid[0] * (grid[1] - 1);
        for (int edge = 0; edge < edges; edge++) {
            MapSheets x = new MapSheets();
            x.grid(grid[0], grid[1]);
            int first = x.edge(edge, 0);
            int second = x.edge(edge, 1);
            for (int sheet = -1; sheet <= grid[0] * grid[1]; sheet++) {
                boolean isOne = sheet == first || sheet == second;
                DUE.same("settle(" + edge + ", " + sheet + ")", x.settle(edge, sheet),
                    isOne ? 0 : MapSheets.INVALID_ARGUMENT);
            }
            DUE.same("settle from the smallest", x.settle(edge, LEAST), MapSheets.INVALID_ARGUMENT);
            DUE.same("settle from the greatest", x.settle(edge, MOST), MapSheets.INVALID_ARGUMENT);
        }
    }

    /** Sheets and edges that there were in a greater grid are none in a smaller one. */
    private static void numbersBehindASmallerGrid() {
        int[] small = {2, 1};
        for (Face face : facesFor(small[0], small[1])) {
            MapSheets x = new MapSheets();
            x.grid(6, 6);
            for (int edge = 0; edge < 60; edge++) {
                x.agree(edge);
            }
            x.show(2, 0, 0, 5);
            x.show(35, 1, 9, 5);
            x.grid(small[0], small[1]);
            callOutside(face, x);
        }
    }
}
