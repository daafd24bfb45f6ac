/** Promises 1 to 8: what is told, what is refused, and that a refusal changes nothing. */
public final class TellTest {
    private static final Check check = new Check();

    public static void main(String[] args) {
        newObject();
        fault();
        faultReach();
        piece();
        pieceShape();
        allows();
        gang();
        need();
        margin();
        bow();
        check.end("TellTest");
    }

    private static void board(String what, FaultRips x, int wide, int along) {
        check.same(what + " has no piece", x.run(0, 1), 0);
        check.same(what + " rows", x.salvage(FaultRips.NONE, 0), along == 0 ? 0 : wide);
        for (int y = 0; along > 0 && y < wide; y++) {
            check.same(what + " row's steps", x.salvage(y, 2), along);
        }
    }

    private static void newObject() {
        check.same("NONE", FaultRips.NONE, -1);
        board("60 200 10", new FaultRips(60, 200, 10), 6, 20);
        board("parts of a step are left", new FaultRips(59, 199, 10), 5, 19);
        board("10 and 24 at most", new FaultRips(65536, 65536, 1), 10, 24);
        board("just 10 and 24", new FaultRips(10, 24, 1), 10, 24);
        board("just below 10 and 24", new FaultRips(9, 23, 1), 9, 23);
        board("nearest of 0", new FaultRips(0, 0, 0), 1, 1);
        board("nearest of the least", new FaultRips(Integer.MIN_VALUE, Integer.MIN_VALUE, Integer.MIN_VALUE), 1, 1);
        board("nearest of the greatest", new FaultRips(Integer.MAX_VALUE, Integer.MAX_VALUE, Integer.MAX_VALUE), 1, 1);
        board("65537 is 65536", new FaultRips(65537, 65537, 65536), 1, 1);
        board("no step wide", new FaultRips(5, 200, 10), 0, 20);
        board("no step long", new FaultRips(60, 9, 10), 6, 0);
        FaultRips x = new FaultRips(70000, 70000, 70000);
        check.same("one great step holds a piece", x.piece(65536, 65536, 65536, 7), 0);
        check.same("one great step", x.run(1, 3), 1);
        check.same("one great step is worth", x.worth(), 7);
    }

    private static FaultRips planned() {
        FaultRips x = new FaultRips(40, 60, 10);
        x.piece(20, 10, 30, 3);
        x.need(0, 5);
        x.gang(20);
        x.run(0, 2);
        return x;
    }

    /** Whatever was refused, the plan of planned() still stands. */
    private static void stands(String what, FaultRips x) {
        check.same(what + " leaves the plan", Check.answer(x::worth), "36");
        check.same(what + " leaves the pieces", Check.pieces(x), "0,0,3,2:0 3,0,3,2:0 0,2,3,2:0 3,2,3,2:0");
    }

    private static void gone(String what, FaultRips x) {
        check.state(what + " ends the plan", x::worth);
    }

    private static void fault() {
        FaultRips x = planned();
        check.no("w 0", x.fault(0, 0, 0, 0, 0, 5));
        check.no("h 0", x.fault(1, 7, 0, 0, 5, 0));
        check.index("face -1", () -> Check.bit(x.fault(-1, 0, 0, 0, 1, 1)));
        check.index("face 2", () -> Check.bit(x.fault(2, 0, 0, 0, 1, 1)));
        check.index("face before kind", () -> Check.bit(x.fault(2, 8, 0, 0, 1, 1)));
        check.argument("kind -1", () -> Check.bit(x.fault(0, -1, 0, 0, 1, 1)));
        check.argument("kind 8", () -> Check.bit(x.fault(0, 8, 0, 0, 1, 1)));
        check.argument("x low", () -> Check.bit(x.fault(0, 0, -65537, 0, 1, 1)));
        check.argument("x high", () -> Check.bit(x.fault(0, 0, 65537, 0, 1, 1)));
        check.argument("y low", () -> Check.bit(x.fault(0, 0, 0, -65537, 1, 1)));
        check.argument("y high", () -> Check.bit(x.fault(0, 0, 0, 65537, 1, 1)));
        check.argument("w -1", () -> Check.bit(x.fault(0, 0, 0, 0, -1, 1)));
        check.argument("w high", () -> Check.bit(x.fault(0, 0, 0, 0, 65537, 1)));
        check.argument("h -1", () -> Check.bit(x.fault(0, 0, 0, 0, 1, -1)));
        check.argument("h high", () -> Check.bit(x.fault(0, 0, 0, 0, 1, 65537)));
        check.argument("h high with w 0", () -> Check.bit(x.fault(0, 0, 0, 0, 0, 65537)));
        stands("a refused fault", x);
        check.yes("edges of the numbers", x.fault(1, 7, -65536, 65536, 65536, 65536));
        gone("a fault", x);
        for (int i = 1; i < 20; i++) {
            check.yes("fault " + i, x.fault(0, 0, 65536, -65536, 1, 1));
        }
        x.run(0, 2);
        check.state("a 21st", () -> Check.bit(x.fault(0, 0, 0, 0, 1, 1)));
        check.state("no room before kind", () -> Check.bit(x.fault(0, 8, 0, 0, 1, 1)));
        check.state("no room before w 0", () -> Check.bit(x.fault(0, 0, 0, 0, 0, 1)));
        check.index("face before no room", () -> Check.bit(x.fault(2, 0, 0, 0, 1, 1)));
        stands("faults beside the board, and none more,", x);
    }

    /** One row of steps of 10 parts, pieces of one step: which of them has a fault that begins at x? */
    private static String struck(int margin, int x, int y, int w, int h) {
        FaultRips f = new FaultRips(10, 60, 10);
        f.piece(10, 10, 10, 1);
        f.margin(margin);
        f.fault(1, 3, x, y, w, h);
        f.run(1, 1);
        return Check.rows(f);
    }

    private static void faultReach() {
        check.same("inside a step", struck(0, 21, 1, 1, 1), "2,0,1");
        check.same("edges that touch", struck(0, 20, 0, 10, 10), "2,0,1");
        check.same("one part farther on", struck(0, 20, 0, 11, 10), "2,0,2");
        check.same("one part before", struck(0, 19, 0, 11, 10), "1,0,2");
        check.same("touching from above", struck(0, 20, 10, 10, 10), "");
        check.same("touching from below", struck(0, 20, -10, 10, 10), "");
        check.same("one part from below", struck(0, 20, -10, 10, 11), "2,0,1");
        check.same("margin on both sides", struck(1, 20, 0, 10, 10), "1,0,3");
        check.same("margin that touches", struck(9, 29, 0, 2, 10), "2,0,2");
        check.same("margin below", struck(1, 20, 10, 1, 1), "1,0,2");
        check.same("margin above", struck(6, 25, -15, 1, 10), "1,0,3");
        check.same("margin that touches from above", struck(5, 25, 15, 1, 10), "");
        check.same("from outside", struck(0, -65536, -65536, 65536, 65536), "");
        check.same("the greatest margin", struck(65536, 65536, 65536, 65536, 65536), "0,0,6");
        check.same("a great margin that touches", struck(65476, 65536, 0, 1, 1), "");
        check.same("all by margin", struck(65536, 65535, 65535, 1, 1), "0,0,6");
    }

    private static void piece() {
        FaultRips x = planned();
        check.argument("width 0", () -> x.piece(0, 1, 1, 1));
        check.argument("width high", () -> x.piece(65537, 1, 1, 1));
        check.argument("low 0", () -> x.piece(1, 0, 1, 1));
        check.argument("low high", () -> x.piece(1, 65537, 65537, 1));
        check.argument("high 0", () -> x.piece(1, 1, 0, 1));
        check.argument("high high", () -> x.piece(1, 1, 65537, 1));
        check.argument("low above high", () -> x.piece(1, 3, 2, 1));
        check.argument("worth 0", () -> x.piece(1, 1, 1, 0));
        check.argument("worth high", () -> x.piece(1, 1, 1, 100001));
        check.argument("worth beyond int", () -> x.piece(1, 1, 1, (1L << 32) + 1));
        check.argument("worth least", () -> x.piece(1, 1, 1, Long.MIN_VALUE));
        stands("a refused piece", x);
        check.same("next number", x.piece(65536, 65536, 65536, 100000), 1);
        gone("a piece", x);
        for (int i = 2; i < 8; i++) {
            check.same("number", x.piece(65536, 1, 65536, 1), i);
        }
        x.run(0, 2);
        check.state("a ninth", () -> x.piece(1, 1, 1, 1));
        check.state("no room before width", () -> x.piece(0, 1, 1, 1));
        stands("pieces wider than the board, and none more,", x);
    }

    private static String alone(int width, int low, int high) {
        FaultRips x = new FaultRips(30, 80, 10);
        x.piece(width, low, high, 1);
        x.run(1, 2);
        return Check.pieces(x);
    }

    private static void pieceShape() {
        check.same("least steps that hold 21", alone(21, 80, 80), "0,0,8,3:0");
        check.same("30 is 3 steps", alone(30, 80, 80), "0,0,8,3:0");
        check.same("31 is 4 steps", alone(31, 80, 80), "");
        check.same("1 is a step", alone(1, 80, 80), "0,0,8,1:0 0,1,8,1:0 0,2,8,1:0");
        check.same("just its least length", alone(30, 70, 75), "0,0,7,3:0");
        check.same("least length within a step", alone(30, 71, 80), "0,0,8,3:0");
        check.same("greatest length within a step", alone(30, 31, 59), "0,0,4,3:0 4,0,4,3:0");
        check.same("no whole steps between", alone(30, 71, 79), "");
    }

    private static void allows() {
        FaultRips x = planned();
        check.index("piece -1", () -> Check.bit(x.allows(-1, 0, 0)));
        check.index("piece 1", () -> Check.bit(x.allows(1, 0, 0)));
        check.index("face -1", () -> Check.bit(x.allows(0, -1, 0)));
        check.index("face 2", () -> Check.bit(x.allows(0, 2, 0)));
        check.index("face before kind", () -> Check.bit(x.allows(0, 2, 8)));
        check.argument("kind -1", () -> Check.bit(x.allows(0, 0, -1)));
        check.argument("kind 8", () -> Check.bit(x.allows(0, 0, 8)));
        stands("a refused allows", x);
        check.yes("kind 7 of face 1", x.allows(0, 1, 7));
        gone("allows", x);
        x.run(0, 2);
        check.no("kind 7 of face 1 again", x.allows(0, 1, 7));
        stands("allows again", x);
        x.fault(1, 7, 0, 0, 60, 40);
        check.same("allowed", x.run(0, 2), 4);
        x.fault(0, 7, 0, 0, 1, 1);
        check.same("the other face is not", x.run(0, 2), 4);
        check.same("a step is left out", Check.pieces(x), "1,0,3,2:0 4,0,2,2:0 0,2,3,2:0 3,2,3,2:0");
        check.yes("face 0", x.allows(0, 0, 7));
        check.same("both faces", x.run(0, 2), 4);
        check.same("worth it all", x.worth(), 36);
        x.fault(1, 6, 0, 0, 60, 40);
        check.same("another kind", x.run(0, 2), 0);
        check.same("another piece", x.piece(40, 60, 60, 1), 1);
        x.allows(1, 1, 6);
        check.same("allows its own alone", x.run(0, 2), 0);
        x.allows(1, 1, 7);
        x.allows(1, 0, 7);
        x.gang(40);
        check.same("allows all three", x.run(0, 2), 1);
    }

    private static void gang() {
        FaultRips x = planned();
        check.argument("0", () -> Check.bit(x.gang(0)));
        check.argument("65537", () -> Check.bit(x.gang(65537)));
        check.no("as many steps", x.gang(11));
        stands("a refused gang", x);
        check.yes("3 steps", x.gang(21));
        gone("a gang", x);
        check.no("3 steps again", x.gang(30));
        check.yes("beyond the board", x.gang(65536));
        check.no("beyond the board, as many steps", x.gang(65531));
        check.yes("beyond the board, fewer steps", x.gang(65530));
        x.piece(10, 60, 60, 100);
        check.same("no rip of one step", x.run(0, 2), 4);
        check.same("third stage's rips are free", x.run(0, 3), 4);
        check.same("third stage's rips are worth", x.worth(), 2400);
        check.same("crosscut first is free", x.run(1, 2), 4);
        FaultRips y = new FaultRips(50, 40, 10);
        y.piece(10, 40, 40, 1);
        y.piece(20, 40, 40, 1);
        y.gang(20);
        y.fault(0, 0, 0, 0, 1, 1);
        y.run(0, 1);
        check.same("waste steps need no saws", Check.pieces(y), "0,1,4,2:1 0,3,4,2:1");
        FaultRips w = new FaultRips(10, 10, 1);
        check.yes("the greatest number of steps", w.gang(65536));
        check.no("the greatest number of steps again", w.gang(65536));
        check.yes("one step fewer", w.gang(65535));
        FaultRips z = new FaultRips(50, 40, 10);
        z.piece(10, 40, 40, 1);
        z.gang(60);
        check.same("a gang wider than the board cuts nothing", z.run(0, 3), 0);
    }

    private static void need() {
        FaultRips x = planned();
        check.index("piece -1", () -> Check.bit(x.need(-1, 0)));
        check.index("piece 1", () -> Check.bit(x.need(1, 0)));
        check.index("piece before n", () -> Check.bit(x.need(1, -1)));
        check.argument("n -1", () -> Check.bit(x.need(0, -1)));
        check.argument("n 1001", () -> Check.bit(x.need(0, 1001)));
        check.no("5 again", x.need(0, 5));
        stands("a refused need", x);
        check.yes("1000", x.need(0, 1000));
        gone("a need", x);
        check.yes("0", x.need(0, 0));
        check.same("run sets needs aside", x.run(0, 2), 4);
        x.piece(1, 1, 1, 1);
        check.yes("0 is not none", x.need(1, 0));
    }

    private static void margin() {
        FaultRips x = planned();
        check.argument("-1", () -> Check.bit(x.margin(-1)));
        check.argument("65537", () -> Check.bit(x.margin(65537)));
        check.no("0 at first", x.margin(0));
        stands("a refused margin", x);
        check.yes("65536", x.margin(65536));
        gone("a margin", x);
        check.no("65536 again", x.margin(65536));
        check.same("without faults", x.run(0, 2), 4);
        x.fault(0, 0, 60, 40, 1, 1);
        check.same("with one beside the board", x.run(0, 2), 0);
        check.yes("back to 0", x.margin(0));
        check.same("it touches alone", x.run(0, 2), 4);
    }

    private static void bow() {
        FaultRips x = planned();
        check.argument("0", () -> Check.bit(x.bow(0)));
        check.argument("16777217", () -> Check.bit(x.bow(16777217)));
        check.no("16777216 at first", x.bow(16777216));
        stands("a refused bow", x);
        check.yes("20", x.bow(20));
        gone("a bow", x);
        check.no("20 again", x.bow(20));
        check.same("2 steps", x.run(0, 2), 6);
        check.yes("19", x.bow(19));
        check.same("1 step", x.run(0, 2), 12);
        check.yes("1", x.bow(1));
        check.same("none", x.run(0, 2), 0);
        check.yes("30", x.bow(30));
        check.same("3 steps", x.run(0, 2), 4);
    }
}
