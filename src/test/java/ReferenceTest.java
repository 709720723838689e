/** Long runs of calls on a MapSheets and on the Reference: every answer has to be the same. */
public final class ReferenceTest {
    private static final int RUNS = 3000;
    private static final int CALLS = 512;
    private static final int[] EXTREMES = {-1, -2, 10, 11, 36, 60, 100, 1000, 1001, 65536,
        Integer.MIN_VALUE, Integer.MAX_VALUE, Integer.MIN_VALUE + 1, 1 << 30};

    private final Due due;
    private final int run;
    private final MapSheets x = new MapSheets();
    private final Reference y = new Reference();
    private long seed;
    private int calls = 0;
    /** Few positions, signs and sheets make quarrels and agreements meet more often. */
    private final int spread;

    private ReferenceTest(Due due, int run) {
        this.due = due;
        this.run = run;
        this.seed = run * 7919L + 1;
        this.spread = run % 3 == 0 ? 10 : 1 + run % 3;
    }

    public static void main(String[] args) {
        Due due = new Due("ReferenceTest");
        for (int run = 0; run < RUNS && !due.isWrong(); run++) {
            new ReferenceTest(due, run).callAll();
        }
        due.finish();
    }

    private void callAll() {
        int columns = run % 4 == 0 ? below(7) : 1 + below(3);
        int rows = run % 4 == 0 ? below(7) : 1 + below(2);
        same("grid", x.grid(columns, rows), y.grid(columns, rows));
        while (calls < CALLS && !due.isWrong()) {
            int kind = below(100);
            if (kind < 50) {
                change(kind);
            } else if (kind < 56) {
                typeSome();
            } else {
                ask();
            }
        }
    }

    /** The next number of a fixed row that looks like chance, from 0 to most - 1. */
    private int below(int most) {
        seed = seed * 6364136223846793005L + 1442695040888963407L;
        return (int) ((seed >>> 33) % most);
    }

    private int orExtreme(int value) {
        return below(40) == 0 ? EXTREMES[below(EXTREMES.length)] : value;
    }

    private int aSheet() {
        return orExtreme(below(y.count(2)));
    }

    private int anEdge() {
        return orExtreme(below(Math.max(1, y.count(3))));
    }

    private int aSide() {
        return orExtreme(below(4));
    }

    private int aPosition() {
        return orExtreme(below(spread));
    }

    private int aSign() {
        return orExtreme(below(spread + 1) % 10);
    }

    private int aSheetOf(int edge) {
        int sheet = y.edge(edge, below(2));
        return sheet < 0 || below(20) == 0 ? aSheet() : sheet;
    }

    private void same(String call, int got, int want) {
        calls++;
        due.same("run " + run + ", call " + calls + ": " + call, got, want);
    }

    private static String told(String name, int... arguments) {
        StringBuilder call = new StringBuilder(name).append('(');
        for (int i = 0; i < arguments.length; i++) {
            call.append(i == 0 ? "" : ", ").append(arguments[i]);
        }
        return call.append(')').toString();
    }

    private void change(int kind) {
        int sheet = aSheet();
        int edge = anEdge();
        int side = aSide();
        int position = aPosition();
        int sign = aSign();
        if (kind < 12) {
            same(told("show", sheet, side, position, sign),
                x.show(sheet, side, position, sign), y.show(sheet, side, position, sign));
        } else if (kind < 16) {
            same(told("erase", sheet, side, position),
                x.erase(sheet, side, position), y.erase(sheet, side, position));
        } else if (kind < 20) {
            int meaning = aSign();
            same(told("mean", sheet, sign, meaning), x.mean(sheet, sign, meaning), y.mean(sheet, sign, meaning));
        } else if (kind < 27) {
            same(told("agree", edge), x.agree(edge), y.agree(edge));
        } else if (kind < 29) {
            same(told("release", edge), x.release(edge), y.release(edge));
        } else if (kind < 35) {
            int from = aSheetOf(edge);
            same(told("settle", edge, from), x.settle(edge, from), y.settle(edge, from));
        } else if (kind < 38) {
            same(told("publish", sheet), x.publish(sheet), y.publish(sheet));
        } else if (kind < 42) {
            same(told("read", sheet), x.read(sheet), y.read(sheet));
        } else if (kind < 45) {
            same("undo()", x.undo(), y.undo());
        } else if (kind < 47) {
            int thousandths = orExtreme(below(3) == 0 ? 1 + below(1000000) : 970 + below(60));
            same(told("scale", sheet, thousandths), x.scale(sheet, thousandths), y.scale(sheet, thousandths));
        } else {
            rareChange();
        }
    }

    private void rareChange() {
        int kind = below(10);
        if (kind < 5) {
            int guard = orExtreme(below(3) == 0 ? 1 : below(2));
            same(told("set", 0, guard), x.set(0, guard), y.set(0, guard));
        } else if (kind < 8) {
            int what = orExtreme(1);
            int tolerance = orExtreme(below(4) == 0 ? below(1001) : below(50));
            same(told("set", what, tolerance), x.set(what, tolerance), y.set(what, tolerance));
        } else if (kind == 8) {
            int columns = orExtreme(1 + below(6));
            int rows = orExtreme(1 + below(6));
            same(told("grid", columns, rows), x.grid(columns, rows), y.grid(columns, rows));
        } else {
            same("clearText()", x.clearText(), y.clearText());
        }
    }

    private void typeSome() {
        if (below(3) == 0) {
            same("clearText()", x.clearText(), y.clearText());
        }
        int items = 1 + below(4);
        for (int i = 0; i < items; i++) {
            typeOne("nesw".charAt(below(4)));
            typeOne((char) ('0' + below(spread)));
            if (below(3) == 0) {
                typeOne('-');
            } else {
                typeOne('=');
                typeOne((char) ('0' + below(spread + 1) % 10));
            }
            typeOne(';');
        }
    }

    private void typeOne(char meant) {
        int character = below(200) == 0 ? orExtreme(32 + below(95)) : meant;
        same(told("type", character), x.type(character), y.type(character));
    }

    private void ask() {
        int sheet = aSheet();
        int edge = anEdge();
        switch (below(10)) {
            case 0:
            case 1:
                int ofAll = orExtreme(below(15));
                same(told("count", ofAll), x.count(ofAll), y.count(ofAll));
                break;
            case 2:
            case 3:
                int ofSheet = orExtreme(below(10));
                same(told("sheet", sheet, ofSheet), x.sheet(sheet, ofSheet), y.sheet(sheet, ofSheet));
                break;
            case 4:
            case 5:
                int ofEdge = orExtreme(below(7));
                same(told("edge", edge, ofEdge), x.edge(edge, ofEdge), y.edge(edge, ofEdge));
                break;
            case 6:
                int index = orExtreme(below(spread));
                int ofQuarrel = orExtreme(below(4));
                same(told("quarrel", edge, index, ofQuarrel),
                    x.quarrel(edge, index, ofQuarrel), y.quarrel(edge, index, ofQuarrel));
                break;
            case 7:
                int side = aSide();
                int position = aPosition();
                same(told("sign", sheet, side, position),
                    x.sign(sheet, side, position), y.sign(sheet, side, position));
                break;
            case 8:
                int sign = aSign();
                same(told("meaning", sheet, sign), x.meaning(sheet, sign), y.meaning(sheet, sign));
                break;
            default:
                askMore(sheet, edge);
                break;
        }
    }

    private void askMore(int sheet, int edge) {
        switch (below(4)) {
            case 0:
                same(told("ratio", edge), x.ratio(edge), y.ratio(edge));
                break;
            case 1:
                int units = orExtreme(below(2) == 0 ? below(10000001) : below(3000));
                same(told("stretched", sheet, units), x.stretched(sheet, units), y.stretched(sheet, units));
                break;
            case 2:
                same("fault()", x.fault(), y.fault());
                break;
            default:
                int side = aSide();
                same(told("edgeAt", sheet, side), x.edgeAt(sheet, side), y.edgeAt(sheet, side));
                break;
        }
    }
}
