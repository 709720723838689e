/**
 * Each call that is refused in the present state: what it answers, that it leaves everything as it was, and which
 * error is returned if several apply; and that questions change nothing, and undo takes each change back.
 */
public final class RefusalsTest {
    private static final Due DUE = new Due("RefusalsTest");
    private static final String SIDES = "nesw";
    /** The neighbours of the middle one of nine sheets. */
    private static final int[] NEIGHBOURS = {1, 5, 7, 3};
    /** The edges of the middle one of nine sheets. */
    private static final int[] EDGES = {7, 3, 10, 2};

    public static void main(String[] args) {
        for (int side = 0; side < 4; side++) {
            for (int position = 0; position < 10; position += 9) {
                guardAt(4, side, position);
                guardAt(NEIGHBOURS[side], (side + 2) % 4, position);
            }
            publishWithout(side);
        }
        meanAtFourAgreedEdges();
        eraseOfNothing();
        undoOfNothing();
        agreeOfQuarrels();
        releaseOfNoAgreement();
        settleWithoutASign();
        typeIntoAFullText();
        readOfAFault();
        whatIsNotFound();
        questionsChangeNothing();
        invalidRatherThanNotPossible();
        invalidRatherThanTheOthers();
        everyChangeIsTakenBack();
        DUE.finish();
    }

    private static Whole.Calls then(Whole.Calls before, Whole.Question call) {
        return x -> {
            before.on(x);
            call.on(x);
        };
    }

    private static int answer(Whole.Calls before, Whole.Question call) {
        MapSheets x = new MapSheets();
        before.on(x);
        return call.on(x);
    }

    /** A call that answers as due and changes nothing. */
    private static void leaves(String what, Whole.Calls before, Whole.Question call, int due) {
        DUE.same(what, answer(before, call), due);
        Whole.same(DUE, what, then(before, call), before);
    }

    private static void notPossible(String what, Whole.Calls before, Whole.Question call) {
        leaves(what, before, call, MapSheets.NOT_POSSIBLE);
    }

    /** Nine sheets, all edges agreed; a way with the sign 5 crosses on each side of the middle one. */
    private static void nine(MapSheets x, int position, int guard, String text) {
        x.grid(3, 3);
        for (int side = 0; side < 4; side++) {
            x.show(4, side, position, 5);
            x.show(NEIGHBOURS[side], (side + 2) % 4, position, 5);
        }
        for (int edge = 0; edge < 12; edge++) {
            x.agree(edge);
        }
        x.set(0, guard);
        x.scale(4, 10);
        Whole.type(x, text);
    }

    private static void guardAt(int sheet, int side, int position) {
        int beside = 9 - position;
        char letter = SIDES.charAt(side);
        guarded("show of another meaning", sheet, side, position, "", x -> x.show(sheet, side, position, 6), 5);
        guarded("show on one side only", sheet, side, position, "", x -> x.show(sheet, side, beside, 5), 10);
        guarded("erase", sheet, side, position, "", x -> x.erase(sheet, side, position), 5);
        guarded("read of another meaning", sheet, side, position, letter + "" + position + "=6;",
            x -> x.read(sheet), 1);
        guarded("read on one side only", sheet, side, position, letter + "" + beside + "=5;",
            x -> x.read(sheet), 1);
        guarded("read that erases", sheet, side, position, letter + "" + position + "-;", x -> x.read(sheet), 1);
        if (sheet != 4) {
            guarded("mean", sheet, side, position, "", x -> x.mean(sheet, 5, 6), 5);
        }
    }

    /** With the guard it is not possible; without, this one edge is not agreed any more. */
    private static void guarded(String name, int sheet, int side, int position, String text, Whole.Question call,
            int due) {
        String what = name + " at " + sheet + ", " + side + ", " + position;
        notPossible(what, x -> nine(x, position, 1, text), call);
        MapSheets x = new MapSheets();
        nine(x, position, 0, text);
        int edge = x.edgeAt(sheet, side);
        int revision = x.sheet(sheet, 4);
        DUE.same(what + ", guard 0", call.on(x), due);
        DUE.same(what + ": agreed", x.edge(edge, 3), 0);
        DUE.same(what + ": agreed ones", x.count(4), 11);
        DUE.same(what + ": clean ones", x.count(5), 11);
        DUE.same(what + ": revision", x.sheet(sheet, 4), revision + 1);
        DUE.same(what + ": undo, agreed then", x.undo() + x.count(4), 3 + 12);
        call.on(x);
        x.set(0, 1);
        DUE.same(what + ": not guarded any more", x.show(sheet, side, 4, 1), 10);
    }

    private static void meanAtFourAgreedEdges() {
        notPossible("mean at four edges", x -> nine(x, 0, 1, ""), x -> x.mean(4, 5, 6));
        MapSheets x = new MapSheets();
        nine(x, 9, 0, "");
        DUE.same("mean at four edges, guard 0", x.mean(4, 5, 6), 5);
        DUE.same("agreed then", x.count(4), 8);
        DUE.same("agreed of the middle one", x.sheet(4, 3), 0);
        DUE.same("agreed after undo", x.undo() + x.count(4), 3 + 12);
    }

    private static void publishWithout(int side) {
        notPossible("publish without side " + side, x -> {
            nine(x, 3, 1, "n");
            x.release(x.edgeAt(4, side));
        }, x -> x.publish(4));
        DUE.same("publish with all", answer(x -> nine(x, 3, 1, ""), x -> x.publish(4)), 4);
    }

    private static void eraseOfNothing() {
        notPossible("erase of nothing", x -> nine(x, 3, 0, "n0"), x -> x.erase(4, 1, 4));
        notPossible("erase of nothing with nothing shown", x -> x.mean(0, 0, 0), x -> x.erase(0, 0, 0));
        notPossible("erase of what is erased", x -> {
            x.show(5, 3, 9, 9);
            x.erase(5, 3, 9);
        }, x -> x.erase(5, 3, 9));
    }

    private static void undoOfNothing() {
        notPossible("undo on a new object", x -> { }, MapSheets::undo);
        notPossible("undo after four", x -> {
            nine(x, 3, 0, "w1=2;");
            for (int left = 3; left >= 0; left--) {
                x.undo();
            }
        }, MapSheets::undo);
    }

    private static void agreeOfQuarrels() {
        for (int position = 0; position < 10; position += 9) {
            int at = position;
            notPossible("agree, the first only", x -> x.show(0, 1, at, 0), x -> x.agree(0));
            notPossible("agree, the second only", x -> x.show(1, 3, at, 0), x -> x.agree(0));
            notPossible("agree, the upper only", x -> x.show(0, 2, at, 0), x -> x.agree(4));
            notPossible("agree, the lower only", x -> x.show(3, 0, at, 0), x -> x.agree(4));
            notPossible("agree, other meanings", x -> {
                x.show(0, 1, at, 0);
                x.show(1, 3, at, 1);
                x.show(1, 3, 5, 0);
                x.show(0, 1, 5, 0);
            }, x -> x.agree(0));
            notPossible("agree, one sign with two meanings", x -> {
                x.mean(1, 4, 9);
                x.show(0, 1, at, 4);
                x.show(1, 3, at, 4);
            }, x -> x.agree(0));
        }
    }

    private static void releaseOfNoAgreement() {
        notPossible("release of what never was", x -> x.agree(0), x -> x.release(1));
        notPossible("release of what was released", x -> {
            x.agree(6);
            x.release(6);
        }, x -> x.release(6));
        notPossible("release of what is not agreed any more", x -> {
            x.agree(6);
            x.set(0, 0);
            x.show(2, 2, 0, 0);
        }, x -> x.release(6));
        MapSheets x = new MapSheets();
        x.agree(6);
        x.release(6);
        DUE.same("agree after release", x.agree(6), 0);
        x.set(0, 0);
        x.show(2, 2, 0, 0);
        x.erase(2, 2, 0);
        DUE.same("agree after it was dropped", x.agree(6), 0);
        DUE.same("agree then", x.agree(6), 1);
    }

    /** Each position but one could be settled; that one is the first or the last of them. */
    private static void settleWithoutASign() {
        for (int position = 0; position < 10; position += 9) {
            for (int side = 0; side < 4; side++) {
                settleLacks(side, position);
            }
        }
    }

    private static void settleLacks(int side, int position) {
        int edge = EDGES[side];
        int opposite = (side + 2) % 4;
        int other = NEIGHBOURS[side];
        Whole.Calls before = x -> {
            x.grid(3, 3);
            for (int at = 0; at < 10; at++) {
                x.show(4, side, at, at == position ? 0 : 1 + at % 3);
            }
            x.show(other, opposite, 4, 9);
            x.mean(other, 0, 9);
            x.scale(other, 7);
        };
        Whole.Question settle = x -> x.settle(edge, 4);
        notPossible("settle without a sign on side " + side + " at " + position, before, settle);
        DUE.same("settle with the highest sign alone", answer(then(before, x -> x.mean(other, 9, 0)), settle), 10);
        MapSheets x = new MapSheets();
        before.on(x);
        x.mean(other, 9, 0);
        settle.on(x);
        DUE.same("the highest sign", x.sign(other, opposite, position), 9);
    }

    private static void typeIntoAFullText() {
        Whole.Calls full = x -> Whole.type(x, "n0=1;".repeat(20));
        leaves("type into a full text", full, x -> x.type(';'), MapSheets.LIMIT_REACHED);
        leaves("type of the least into a full text", full, x -> x.type(32), MapSheets.LIMIT_REACHED);
        leaves("type of the most into a full text", full, x -> x.type(126), MapSheets.LIMIT_REACHED);
        DUE.same("the last one that is taken", answer(x -> Whole.type(x, "n".repeat(99)), x -> x.type('n')), 100);
    }

    private static void readOfAFault() {
        String[] texts = {"x", "n", "n1=2;e", "n1=2;e3", "n1=2;e3=", "n1=2;e3=4", "n1=2;e3-", "n1=2;?",
            "n1=2; ", "n1=2;n1=2;;", "w0=0;".repeat(19) + "w0=0:", "w0=0;".repeat(19) + "s0-;s"};
        for (String text : texts) {
            notPossible("read of " + text, x -> {
                x.show(4, 1, 3, 9);
                x.agree(6);
                Whole.type(x, text);
            }, x -> x.read(4));
        }
    }

    private static void whatIsNotFound() {
        Whole.Calls before = x -> nine(x, 3, 1, "n3=5;");
        leaves("sign", before, x -> x.sign(4, 0, 4), MapSheets.NOT_FOUND);
        leaves("published revision", before, x -> x.sheet(4, 5), MapSheets.NOT_FOUND);
        leaves("outer side", before, x -> x.edgeAt(0, 0), MapSheets.NOT_FOUND);
        leaves("quarrel of a clean edge", before, x -> x.quarrel(0, 0, 0), MapSheets.NOT_FOUND);
        leaves("fault", before, MapSheets::fault, MapSheets.NOT_FOUND);
    }

    private static void questionsChangeNothing() {
        Whole.Calls before = x -> {
            nine(x, 3, 0, "n3=5;e");
            x.mean(4, 5, 6);
            x.publish(0);
        };
        Whole.same(DUE, "questions", then(before, RefusalsTest::askEverything), before);
        Whole.same(DUE, "a text that comes and goes", x -> {
            x.show(0, 0, 0, 1);
            Whole.type(x, "n3=5;");
            x.clearText();
        }, x -> x.show(0, 0, 0, 1));
    }

    private static int askEverything(MapSheets x) {
        for (int what = 0; what < 15; what++) {
            x.count(what);
            x.sheet(4, what);
            x.edge(2, what);
            x.quarrel(2, what / 4, what % 4);
        }
        for (int side = 0; side < 4; side++) {
            x.edgeAt(0, side);
            x.sign(4, side, 3);
            x.meaning(4, side);
            x.ratio(side);
            x.stretched(4, side);
        }
        return x.fault();
    }

    /** A wrong argument of a call that the guard, a quarrel or a fault would forbid as well. */
    private static void invalidRatherThanNotPossible() {
        Whole.Calls before = x -> {
            nine(x, 3, 1, "n3=6;?");
            x.release(11);
            x.show(5, 2, 0, 1);
            x.mean(8, 1, 2);
        };
        int invalid = MapSheets.INVALID_ARGUMENT;
        leaves("show of a wrong sign", before, x -> x.show(4, 0, 3, 10), invalid);
        leaves("show at a wrong position", before, x -> x.show(4, 0, 10, 6), invalid);
        leaves("show on a wrong side", before, x -> x.show(4, 4, 3, 6), invalid);
        leaves("show of no sheet", before, x -> x.show(9, 0, 3, 6), invalid);
        leaves("erase at a wrong position", before, x -> x.erase(4, 0, -1), invalid);
        leaves("erase on a wrong side", before, x -> x.erase(4, -1, 3), invalid);
        leaves("erase of no sheet", before, x -> x.erase(-1, 0, 3), invalid);
        leaves("mean of a wrong sign", before, x -> x.mean(4, 10, 6), invalid);
        leaves("mean of a wrong meaning", before, x -> x.mean(4, 5, 10), invalid);
        leaves("mean of no sheet", before, x -> x.mean(9, 5, 6), invalid);
        DUE.same("agree with a quarrel", answer(before, x -> x.agree(11)), MapSheets.NOT_POSSIBLE);
        leaves("agree of no edge", before, x -> x.agree(12), invalid);
        leaves("release of no edge", before, x -> x.release(12), invalid);
        DUE.same("settle without a sign", answer(before, x -> x.settle(11, 5)), MapSheets.NOT_POSSIBLE);
        leaves("settle from a sheet that is not of it", before, x -> x.settle(11, 4), invalid);
        leaves("settle from no sheet", before, x -> x.settle(11, 9), invalid);
        leaves("settle of no edge", before, x -> x.settle(12, 5), invalid);
        DUE.same("publish without all", answer(before, x -> x.publish(8)), MapSheets.NOT_POSSIBLE);
        leaves("publish of no sheet", before, x -> x.publish(9), invalid);
        DUE.same("read of a fault", answer(before, x -> x.read(8)), MapSheets.NOT_POSSIBLE);
        leaves("read into no sheet", before, x -> x.read(9), invalid);
        leaves("read into no sheet below", before, x -> x.read(-1), invalid);
    }

    private static void invalidRatherThanTheOthers() {
        Whole.Calls full = x -> Whole.type(x, "n".repeat(100));
        int invalid = MapSheets.INVALID_ARGUMENT;
        leaves("type of too small a one into a full text", full, x -> x.type(31), invalid);
        leaves("type of too great a one into a full text", full, x -> x.type(127), invalid);
        leaves("sign at a wrong place", full, x -> x.sign(0, 0, 10), invalid);
        leaves("published revision of no sheet", full, x -> x.sheet(6, 5), invalid);
        leaves("edge of a wrong side", full, x -> x.edgeAt(0, 4), invalid);
        leaves("edge of no sheet", full, x -> x.edgeAt(6, 0), invalid);
        leaves("quarrel below the first", full, x -> x.quarrel(0, -1, 0), invalid);
        leaves("quarrel of no edge", full, x -> x.quarrel(7, 10, 0), invalid);
        leaves("wrong thing of no quarrel", full, x -> x.quarrel(0, 10, 4), invalid);
    }

    /** Three states are in the history before, so that none is dropped. */
    private static void threeStates(MapSheets x) {
        nine(x, 3, 0, "n3=5;");
        x.release(5);
        x.show(8, 0, 0, 1);
        x.publish(4);
        x.undo();
    }

    private static void takenBack(String what, Whole.Question change) {
        Whole.Calls before = RefusalsTest::threeStates;
        DUE.holds(what + " is possible", answer(before, change) >= 0);
        DUE.same(what + " is a change", answer(then(before, change), x -> x.count(11)), 4);
        Whole.same(DUE, what + " is taken back", then(then(before, change), MapSheets::undo), before);
    }

    private static void everyChangeIsTakenBack() {
        takenBack("grid", x -> x.grid(6, 6));
        takenBack("a smaller grid", x -> x.grid(1, 1));
        takenBack("set of the guard", x -> x.set(0, 1));
        takenBack("set of the guard as it is", x -> x.set(0, 0));
        takenBack("set of the tolerance", x -> x.set(1, 1000));
        takenBack("set of the tolerance as it is", x -> x.set(1, 20));
        takenBack("show", x -> x.show(4, 0, 3, 6));
        takenBack("show of what is there", x -> x.show(4, 0, 3, 5));
        takenBack("erase", x -> x.erase(4, 2, 3));
        takenBack("mean", x -> x.mean(4, 5, 6));
        takenBack("mean of what it means", x -> x.mean(4, 5, 5));
        takenBack("agree", x -> x.agree(5));
        takenBack("agree of what is agreed", x -> x.agree(0));
        takenBack("release", x -> x.release(10));
        takenBack("settle", x -> x.settle(x.edgeAt(8, 0), 8));
        takenBack("settle of nothing", x -> x.settle(0, 1));
        takenBack("publish", x -> x.publish(4));
        takenBack("publish of a revision 0", x -> x.publish(0));
        takenBack("scale", x -> x.scale(8, 1000000));
        takenBack("scale as it is", x -> x.scale(4, 10));
        takenBack("read", x -> x.read(8));
        takenBack("read of what is there", x -> x.read(4));
    }
}
