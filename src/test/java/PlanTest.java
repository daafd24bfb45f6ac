/** Promises 9, 11, 12, 13 and 16: the BEST plan, its pieces and what is left over. */
public final class PlanTest {
    private static final Check check = new Check();

    public static void main(String[] args) {
        withoutPlan();
        wrongRun();
        stages();
        fewestPieces();
        longerFirst();
        ownBest();
        wholeBoard();
        leastNumber();
        at();
        clear2();
        salvage();
        manyPieces();
        check.end("PlanTest");
    }

    private static void withoutPlan() {
        FaultRips x = new FaultRips(10, 10, 10);
        check.state("worth", x::worth);
        check.state("at", () -> x.at(5, 9));
        check.state("clear2", () -> Check.bit(x.clear2(5)));
        check.state("salvage", () -> x.salvage(5, 9));
        check.same("run without pieces", x.run(0, 1), 0);
        check.same("is worth nothing", x.worth(), 0);
        check.same("has no pieces", x.at(FaultRips.NONE, 5), 0);
        x.piece(10, 10, 10, 1);
        check.state("worth once told", x::worth);
    }

    private static void wrongRun() {
        FaultRips x = new FaultRips(20, 40, 10);
        x.piece(20, 40, 40, 2);
        x.run(1, 1);
        check.argument("way -1", () -> x.run(-1, 1));
        check.argument("way 2", () -> x.run(2, 1));
        check.argument("stages 0", () -> x.run(0, 0));
        check.argument("stages 4", () -> x.run(0, 4));
        check.same("plan stands", x.worth(), 8);
        x.piece(10, 40, 40, 2);
        check.argument("stages 4, once told", () -> x.run(0, 4));
        check.state("no plan by that", x::worth);
        x.prices(1);
        check.same("prices() still cuts crosscut first in one stage", x.worth(), 8);
    }

    private static String cut(FaultRips x, int way, int stages) {
        int n = x.run(way, stages);
        check.same("run's answer", n, x.at(FaultRips.NONE, 0));
        return x.worth() + " " + Check.pieces(x);
    }

    /** Two pieces that only cuts in three stages can set beside each other, on 2 by 4 steps. */
    private static void stages() {
        FaultRips x = new FaultRips(20, 40, 10);
        x.piece(20, 10, 10, 5);
        x.piece(10, 30, 30, 4);
        check.same("rip", cut(x, 0, 1), "0 ");
        check.same("crosscut", cut(x, 1, 1), "20 0,0,1,2:0 1,0,1,2:0 2,0,1,2:0 3,0,1,2:0");
        check.same("rip, crosscut", cut(x, 0, 2), "24 0,0,3,1:1 0,1,3,1:1");
        check.same("crosscut, rip", cut(x, 1, 2), "29 0,0,3,1:1 0,1,3,1:1 3,0,1,2:0");
        check.same("rip, crosscut, rip", cut(x, 0, 3), "29 0,0,3,1:1 0,1,3,1:1 3,0,1,2:0");
        check.same("crosscut, rip, crosscut", cut(x, 1, 3), "29 0,0,3,1:1 0,1,3,1:1 3,0,1,2:0");
        FaultRips y = new FaultRips(30, 30, 10);
        y.piece(10, 20, 20, 1);
        y.piece(20, 10, 10, 1);
        check.same("three rips behind a crosscut, one beside them", cut(y, 0, 3), "7 0,0,2,1:0 0,1,2,1:0 0,2,2,1:0 2,0,1,2:1");
    }

    private static void fewestPieces() {
        FaultRips x = new FaultRips(10, 60, 10);
        x.piece(10, 10, 10, 3);
        x.piece(10, 20, 20, 3);
        x.piece(10, 30, 30, 3);
        check.same("fewest pieces of as much worth", cut(x, 1, 1), "18 0,0,3,1:2 3,0,3,1:2");
        x.piece(10, 50, 50, 3);
        check.same("worth before fewest, longer first", cut(x, 1, 1), "18 0,0,5,1:3 5,0,1,1:0");
    }

    private static void longerFirst() {
        FaultRips x = new FaultRips(10, 70, 10);
        x.piece(10, 20, 20, 3);
        x.piece(10, 40, 40, 3);
        check.same("longer first, waste last", cut(x, 1, 1), "18 0,0,4,1:1 4,0,2,1:0");
        x.fault(0, 0, 2, 2, 1, 1);
        check.same("waste where it must be", cut(x, 1, 1), "18 1,0,4,1:1 5,0,2,1:0");
        FaultRips y = new FaultRips(50, 10, 10);
        y.piece(10, 10, 10, 1);
        y.piece(30, 10, 10, 3);
        check.same("rips too", cut(y, 0, 1), "5 0,0,1,3:1 0,3,1,1:0 0,4,1,1:0");
        FaultRips z = new FaultRips(30, 20, 10);
        z.piece(20, 20, 20, 1);
        check.same("waste behind a rip", cut(z, 0, 1), "2 0,0,2,2:0");
    }

    /** Of plans with the same pieces, that with the longer segment says in which order they are met. */
    private static void ownBest() {
        FaultRips w = new FaultRips(20, 30, 10);
        w.piece(10, 10, 10, 1);
        check.same("two stages go rip by rip", cut(w, 0, 2),
                "6 0,0,1,1:0 1,0,1,1:0 2,0,1,1:0 0,1,1,1:0 1,1,1,1:0 2,1,1,1:0");
        check.same("three stages go crosscut by crosscut in one rip", cut(w, 0, 3),
                "6 0,0,1,1:0 0,1,1,1:0 1,0,1,1:0 1,1,1,1:0 2,0,1,1:0 2,1,1,1:0");
        check.same("and rip by rip in one crosscut", cut(w, 1, 3),
                "6 0,0,1,1:0 1,0,1,1:0 2,0,1,1:0 0,1,1,1:0 1,1,1,1:0 2,1,1,1:0");
        FaultRips x = new FaultRips(30, 40, 10);
        x.piece(20, 40, 40, 2);
        check.same("by rips alone", cut(x, 0, 1), "8 0,0,4,2:0");
        check.same("crosscut, rip", cut(x, 1, 2), "8 0,0,4,2:0");
        x.fault(1, 1, 0, 0, 40, 1);
        check.same("below the fault", cut(x, 0, 3), "8 0,1,4,2:0");
        FaultRips y = new FaultRips(40, 40, 10);
        y.piece(20, 40, 40, 1);
        y.fault(0, 0, 0, 0, 1, 1);
        y.fault(0, 0, 0, 30, 1, 1);
        check.same("faults above and below", cut(y, 0, 2), "4 0,1,4,2:0");
    }

    private static void wholeBoard() {
        FaultRips x = new FaultRips(100, 240, 10);
        x.piece(100, 240, 240, 100000);
        for (int stages = 1; stages <= 3; stages++) {
            check.same("ripped", cut(x, 0, stages), "2400000 0,0,24,10:0");
            check.same("crosscut", cut(x, 1, stages), "2400000 0,0,24,10:0");
        }
        x.gang(100);
        check.same("the gang's greatest width", cut(x, 0, 1), "2400000 0,0,24,10:0");
    }

    private static void leastNumber() {
        FaultRips x = new FaultRips(10, 30, 10);
        x.piece(10, 30, 30, 1);
        x.piece(5, 20, 40, 2);
        x.piece(10, 10, 30, 2);
        check.same("worth most, then the least number", cut(x, 0, 1), "6 0,0,3,1:1");
        x.fault(0, 4, 5, 5, 1, 1);
        x.allows(2, 0, 4);
        check.same("the one that allows it", cut(x, 0, 1), "6 0,0,3,1:2");
    }

    private static void at() {
        FaultRips x = new FaultRips(20, 50, 10);
        x.piece(20, 20, 20, 100000);
        x.fault(0, 0, 0, 0, 1, 1);
        x.run(1, 1);
        int[] due = {1, 0, 2, 2, 0, 200000};
        for (int what = 0; what < 6; what++) {
            int what2 = what;
            check.same("how many, what " + what, x.at(FaultRips.NONE, what), 2);
            check.same("first, what " + what, x.at(0, what), due[what]);
            check.index("third, what " + what, () -> x.at(2, what2));
            check.index("before NONE, what " + what, () -> x.at(-2, what2));
        }
        check.same("second's x", x.at(1, 0), 3);
        check.argument("what -1", () -> x.at(0, -1));
        check.argument("what 6", () -> x.at(0, 6));
        check.argument("what 6 of NONE", () -> x.at(FaultRips.NONE, 6));
        check.index("k before what", () -> x.at(2, 6));
        check.index("k far", () -> x.at(Integer.MAX_VALUE, 0));
        check.index("k far below", () -> x.at(Integer.MIN_VALUE, 0));
    }

    private static void clear2() {
        FaultRips x = new FaultRips(10, 40, 10);
        x.piece(10, 10, 10, 1);
        for (int face = 0; face < 2; face++) {
            x.fault(face, 3, 10 + 10 * face, 0, 10, 10);
            x.allows(0, face, 3);
        }
        x.run(1, 1);
        check.yes("no fault, edges touch", x.clear2(0));
        check.no("fault on face 0", x.clear2(1));
        check.no("fault on face 1", x.clear2(2));
        check.yes("no fault", x.clear2(3));
        check.index("-1", () -> Check.bit(x.clear2(FaultRips.NONE)));
        check.index("4", () -> Check.bit(x.clear2(4)));
        x.margin(1);
        x.run(1, 1);
        check.no("a margin reaches it", x.clear2(0));
        check.no("a margin reaches the last", x.clear2(3));
    }

    private static void salvage() {
        FaultRips x = new FaultRips(30, 70, 10);
        x.run(0, 2);
        check.same("whole rows", Check.rows(x), "0,0,7 0,1,7 0,2,7");
        x.piece(20, 20, 20, 1);
        x.fault(0, 0, 21, 0, 1, 30);
        x.run(0, 2);
        check.same("plan", Check.pieces(x), "0,0,2,2:0 3,0,2,2:0 5,0,2,2:0");
        check.same("rows between and below", Check.rows(x), "2,0,1 2,1,1 0,2,7");
        for (int what = 0; what < 3; what++) {
            int what2 = what;
            check.same("how many rows", x.salvage(FaultRips.NONE, what), 3);
            check.index("a fourth", () -> x.salvage(3, what2));
            check.index("before NONE", () -> x.salvage(-2, what2));
        }
        check.argument("what -1", () -> x.salvage(0, -1));
        check.argument("what 3", () -> x.salvage(0, 3));
        check.argument("what 3 of NONE", () -> x.salvage(FaultRips.NONE, 3));
        check.index("k before what", () -> x.salvage(3, 3));
    }

    /** The most rows that there can be, and the most pieces. */
    private static void manyPieces() {
        FaultRips x = new FaultRips(10, 24, 1);
        x.piece(1, 1, 1, 100000);
        x.piece(1, 2, 2, 1);
        check.same("all steps", x.run(1, 3), 240);
        check.same("all worth", x.worth(), 24000000);
        check.same("no rows", x.salvage(FaultRips.NONE, 1), 0);
        for (int i = 0; i < 12; i++) {
            x.fault(0, 0, 2 * i, 0, 1, 10);
        }
        check.same("every second column", x.run(0, 2), 120);
        check.same("rows of one step", x.salvage(FaultRips.NONE, 2), 120);
        check.same("last row's x", x.salvage(119, 0), 22);
        check.same("last row's y", x.salvage(119, 1), 9);
        check.same("last row's steps", x.salvage(119, 2), 1);
    }
}
