/** The sentences of "What it is" and "Terms" that name an edge: a method each, with the sentence above it. */
public final class TermsTest {
    private static final Check check = new Check();

    public static void main(String[] args) {
        the512thCall();
        stepsAlong();
        stepsUpward();
        noSteps();
        twentyFaults();
        facesAndKinds();
        boxesOfFaults();
        marginOnFourSides();
        marginIsTheLatest();
        eightPieces();
        widthOfPiece();
        leastLength();
        greatestLength();
        worthOfSteps();
        noneAllowedAtFirst();
        bowAtFirst();
        bowInParts();
        lessThanAStep();
        edgesThatTouch();
        byOneStage();
        byTwoStages();
        byThreeStages();
        noFourthStage();
        noPieceAtLeast();
        singleStepsOfWaste();
        worthMost();
        fewestPieces();
        longerSegment();
        wasteLast();
        ownBestPlan();
        leastNumber();
        gangOfTheFirstStage();
        gangNotTold();
        noPlanSinceTold();
        check.end("TermsTest");
    }

    private static FaultRips row(int steps) {
        return new FaultRips(10, 10 * steps, 10);
    }

    /** Single steps, as many as there are, in two stages. */
    private static FaultRips grid(int wide, int along) {
        FaultRips x = new FaultRips(10 * wide, 10 * along, 10);
        x.piece(10, 10, 10, 1);
        return x;
    }

    private static void cut(String what, FaultRips x, int way, int stages, String due) {
        int n = x.run(way, stages);
        check.same(what, x.worth() + " " + Check.pieces(x), due);
        check.same(what + ": how many", n, x.at(FaultRips.NONE, 0));
    }

    /** "An object is used for at most 512 calls after it has been made". */
    private static void the512thCall() {
        FaultRips x = new FaultRips(10, 24, 1);
        int calls = 0;
        for (int i = 0; i < 8; i++, calls++) {
            check.same("piece", x.piece(1, 1, 24, 1 + i), i);
        }
        for (int i = 0; i < 20; i++, calls++) {
            check.yes("fault", x.fault(i % 2, i % 8, i, 0, 1, 1));
        }
        while (calls < 510) {
            int most = 1 + calls % 5;
            check.yes("bow", x.bow(most));
            check.same("run", x.run(1, 3) > 0 ? 1 : 0, 1);
            calls += 2;
        }
        x.bow(24);
        check.same("the 512th", x.run(0, 2), 10);
    }

    private static void along(int length, int step, int due) {
        FaultRips x = new FaultRips(step, length, step);
        x.run(1, 1);
        check.same("rows of " + length, x.salvage(FaultRips.NONE, 2), due == 0 ? 0 : 1);
        if (due > 0) {
            check.same("steps of " + length, x.salvage(0, 2), due);
        }
    }

    /** "A board has LONG = length / STEP steps along x, 24 at most". */
    private static void stepsAlong() {
        along(9, 10, 0);
        along(10, 10, 1);
        along(19, 10, 1);
        along(239, 10, 23);
        along(240, 10, 24);
        along(249, 10, 24);
        along(250, 10, 24);
        along(65536, 10, 24);
        along(65536, 1, 24);
        along(65536, 65536, 1);
        along(65535, 65536, 0);
        along(65536, 2730, 24);
        along(65536, 2731, 23);
        FaultRips x = new FaultRips(10, 260, 10);
        x.piece(10, 250, 260, 1);
        check.same("25 steps are too long", x.run(0, 1), 0);
        x.piece(10, 240, 240, 1);
        cut("24 are not", x, 0, 1, "24 0,0,24,1:1");
    }

    private static void upward(int width, int step, int due) {
        FaultRips x = new FaultRips(width, step, step);
        x.run(0, 1);
        check.same("rows of width " + width, x.salvage(FaultRips.NONE, 0), due);
    }

    /** "and WIDE = width / STEP steps along y, 10 at most". */
    private static void stepsUpward() {
        upward(9, 10, 0);
        upward(10, 10, 1);
        upward(19, 10, 1);
        upward(99, 10, 9);
        upward(100, 10, 10);
        upward(109, 10, 10);
        upward(110, 10, 10);
        upward(65536, 10, 10);
        upward(65536, 1, 10);
        upward(65536, 65536, 1);
        upward(65535, 65536, 0);
        upward(65536, 6553, 10);
        upward(65536, 6554, 9);
        FaultRips x = new FaultRips(120, 10, 10);
        x.piece(110, 10, 10, 1);
        check.same("11 steps are too wide", x.run(1, 1), 0);
        x.piece(100, 10, 10, 1);
        cut("10 are not", x, 1, 1, "1 0,0,1,10:1");
    }

    /** A board without a step has a plan, which is empty. */
    private static void noSteps() {
        int[][] boards = {{9, 100}, {100, 9}, {9, 9}};
        for (int[] b : boards) {
            FaultRips x = new FaultRips(b[0], b[1], 10);
            x.piece(1, 1, 65536, 100000);
            x.fault(0, 0, 0, 0, 5, 5);
            x.need(0, 0);
            for (int stages = 1; stages <= 3; stages++) {
                check.same("ripped", x.run(0, stages), 0);
                check.same("crosscut", x.run(1, stages), 0);
            }
            check.same("all of run", Seen.all(x), "0 of 0 true pieces rows prices 0,0,0 panels -1,-1 -1,-1 -1,-1 -1,-1");
            check.same("one round", x.prices(6), 1);
            check.same("all of prices", Seen.all(x), "0 of 0 true pieces rows prices 0,0,0 panels -1,-1 -1,-1 -1,-1 -1,-1");
        }
    }

    /** "FAULTS (20 at most)": each of the 20 counts. */
    private static void twentyFaults() {
        FaultRips x = grid(1, 24);
        for (int i = 0; i < 20; i++) {
            check.yes("fault " + i, x.fault(i % 2, i % 8, 10 * i + 1, 1, 8, 8));
            check.same("steps that are left", x.run(1, 1), 23 - i);
        }
        check.state("a 21st", () -> Check.bit(x.fault(0, 0, 231, 1, 8, 8)));
        check.same("20 steps are struck", Check.rows(x), "0,0,20");
        x.allows(0, 1, 3);
        x.run(1, 1);
        check.same("the 4th, 12th and 20th are allowed", Check.rows(x), "0,0,3 4,0,7 12,0,7");
    }

    /** "boxes on a face 0 or 1, of a kind 0 .. 7"; a piece allows a kind on a face, and no other one. */
    private static void facesAndKinds() {
        for (int allowed = 0; allowed < 16; allowed++) {
            for (int struck = 0; struck < 16; struck++) {
                FaultRips x = grid(1, 1);
                check.yes("allows", x.allows(0, allowed / 8, allowed % 8));
                check.yes("fault", x.fault(struck / 8, struck % 8, 0, 0, 10, 10));
                check.same("allowed " + allowed + " struck " + struck, x.run(0, 1), allowed == struck ? 1 : 0);
            }
        }
    }

    private static String struck(int margin, int x, int y, int w, int h) {
        FaultRips f = grid(3, 3);
        f.fault(1, 4, x, y, w, h);
        f.margin(margin);
        f.run(0, 2);
        return Check.rows(f);
    }

    /** "from x, y on, w along x, h along y". */
    private static void boxesOfFaults() {
        check.same("along x", struck(0, 10, 10, 20, 10), "1,1,2");
        check.same("along y", struck(0, 10, 10, 10, 20), "1,1,1 1,2,1");
        check.same("x is not y", struck(0, 20, 0, 10, 10), "2,0,1");
        check.same("y is not x", struck(0, 0, 20, 10, 10), "0,2,1");
        check.same("from beside the board", struck(0, -5, -15, 6, 16), "0,0,1");
        check.same("farther than the board", struck(0, 15, 25, 65536, 65536), "1,2,2");
    }

    /** "each reaches MARGIN farther on its four sides": the box is 1 .. 4 parts away from the edges of a step. */
    private static void marginOnFourSides() {
        check.same("0", struck(0, 13, 14, 5, 5), "1,1,1");
        check.same("1 touches above", struck(1, 13, 14, 5, 5), "1,1,1");
        check.same("2 reaches above, touches right", struck(2, 13, 14, 5, 5), "1,1,1 1,2,1");
        check.same("3 reaches right, touches left", struck(3, 13, 14, 5, 5), "1,1,2 1,2,2");
        check.same("4 reaches left, touches below", struck(4, 13, 14, 5, 5), "0,1,3 0,2,3");
        check.same("5 reaches below", struck(5, 13, 14, 5, 5), "0,0,3 0,1,3 0,2,3");
        check.same("from afar, touching", struck(65506, 65536, 65536, 1, 1), "");
        check.same("from afar, a part more", struck(65507, 65536, 65536, 1, 1), "2,2,1");
        check.same("the greatest from above", struck(65536, 65536, 65536, 1, 1), "0,0,3 0,1,3 0,2,3");
        check.same("the greatest from below", struck(65536, -65536, -65536, 1, 1), "0,0,1");
        check.same("from below, touching", struck(65535, -65536, -65536, 1, 1), "");
    }

    private static void marginIsTheLatest() {
        FaultRips x = grid(3, 3);
        x.margin(5);
        x.fault(0, 0, 13, 14, 5, 5);
        x.run(0, 2);
        check.same("told before the fault", Check.rows(x), "0,0,3 0,1,3 0,2,3");
        x.margin(3);
        x.run(0, 2);
        check.same("less, later", Check.rows(x), "1,1,2 1,2,2");
        x.margin(0);
        x.run(0, 2);
        check.same("none, later", Check.rows(x), "1,1,1");
        x.fault(1, 1, 3, 4, 5, 5);
        x.margin(2);
        x.run(0, 2);
        check.same("of each fault", Check.rows(x), "0,0,1 0,1,2 1,2,1");
    }

    /** "PIECES 0 .. 7 (as they are told)". */
    private static void eightPieces() {
        FaultRips x = row(8);
        for (int i = 0; i < 8; i++) {
            check.same("number", x.piece(10, 10, 10, 1 + i), i);
            x.allows(i, 0, i);
            x.fault(0, i, 10 * i, 0, 10, 10);
        }
        check.state("a ninth", () -> x.piece(10, 10, 10, 1));
        cut("each its own", x, 1, 1, "36 0,0,1,1:0 1,0,1,1:1 2,0,1,1:2 3,0,1,1:3 4,0,1,1:4 5,0,1,1:5 6,0,1,1:6 7,0,1,1:7");
    }

    private static int stepsOfWidth(int width, int step) {
        FaultRips x = new FaultRips(10 * step, step, step);
        x.piece(width, 1, 65536, 1);
        return x.run(1, 2) == 0 ? 0 : x.at(0, 3);
    }

    /** "have a width: the least number of steps that holds it". */
    private static void widthOfPiece() {
        check.same("1 of 10", stepsOfWidth(1, 10), 1);
        check.same("10 of 10", stepsOfWidth(10, 10), 1);
        check.same("11 of 10", stepsOfWidth(11, 10), 2);
        check.same("20 of 10", stepsOfWidth(20, 10), 2);
        check.same("99 of 10", stepsOfWidth(99, 10), 10);
        check.same("100 of 10", stepsOfWidth(100, 10), 10);
        check.same("101 of 10", stepsOfWidth(101, 10), 0);
        check.same("65536 of 10", stepsOfWidth(65536, 10), 0);
        check.same("1 of 1", stepsOfWidth(1, 1), 1);
        check.same("10 of 1", stepsOfWidth(10, 1), 10);
        check.same("11 of 1", stepsOfWidth(11, 1), 0);
        FaultRips x = new FaultRips(65536, 65536, 65536);
        x.piece(65536, 1, 65536, 1);
        check.same("65536 of 65536", x.run(0, 1), 1);
        FaultRips y = new FaultRips(65535, 65535, 65535);
        y.piece(65536, 1, 65536, 1);
        check.same("65536 of 65535", y.run(0, 1), 0);
    }

    private static int stepsOfLength(int steps, int low, int high) {
        FaultRips x = row(steps);
        x.piece(10, low, high, 1);
        return x.run(0, 1) == 0 ? 0 : x.at(0, 2);
    }

    /** "its length in parts is from the least": a board of so many steps is one piece, or it is not. */
    private static void leastLength() {
        check.same("just the least", stepsOfLength(2, 20, 65536), 2);
        check.same("a part short", stepsOfLength(2, 21, 65536), 0);
        check.same("a part more", stepsOfLength(2, 19, 65536), 2);
        check.same("least 1", stepsOfLength(1, 1, 65536), 1);
        check.same("least above the board", stepsOfLength(24, 241, 65536), 0);
        check.same("least 65536", stepsOfLength(24, 65536, 65536), 0);
        check.same("just 24 steps", stepsOfLength(24, 240, 65536), 24);
    }

    /** "to the greatest one". */
    private static void greatestLength() {
        check.same("just the greatest", stepsOfLength(2, 1, 20), 2);
        check.same("a part too long", stepsOfLength(2, 1, 19), 0);
        check.same("a part more", stepsOfLength(2, 1, 21), 2);
        check.same("greatest 1", stepsOfLength(1, 1, 1), 0);
        check.same("24 steps", stepsOfLength(24, 1, 240), 24);
        check.same("24 steps, a part too long", stepsOfLength(24, 1, 239), 0);
        check.same("least is greatest", stepsOfLength(3, 30, 30), 3);
        check.same("no steps between", stepsOfLength(3, 21, 29), 0);
    }

    /** "a WORTH of each step of length", whatever its width. */
    private static void worthOfSteps() {
        FaultRips x = new FaultRips(100, 240, 10);
        x.piece(100, 240, 240, 1);
        cut("the least", x, 0, 1, "24 0,0,24,10:0");
        check.same("the least's own", x.at(0, 5), 24);
        x.piece(100, 240, 240, 100000);
        cut("the greatest", x, 0, 1, "2400000 0,0,24,10:1");
        check.same("the greatest's own", x.at(0, 5), 2400000);
        x.piece(10, 10, 10, 100000);
        x.run(0, 2);
        check.same("all of the board", x.worth(), 24000000);
        check.same("each of it", x.at(239, 5), 100000);
    }

    /** "faces and kinds whose faults they ALLOW (none at first)". */
    private static void noneAllowedAtFirst() {
        for (int i = 0; i < 16; i++) {
            FaultRips x = grid(1, 2);
            x.fault(i / 8, i % 8, 5, 5, 1, 1);
            cut("face " + i / 8 + " kind " + i % 8, x, 1, 1, "1 1,0,1,1:0");
        }
    }

    /** "not above BOW (16777216 at first)": no length that can be told is above it then. */
    private static void bowAtFirst() {
        FaultRips x = new FaultRips(65536, 65536, 65536);
        x.piece(65536, 65536, 65536, 1);
        check.same("the greatest length", x.run(0, 1), 1);
        check.no("is so already", x.bow(16777216));
        check.same("the plan stands", x.worth(), 1);
        check.yes("less", x.bow(16777215));
        check.same("still", x.run(0, 1), 1);
        check.yes("65536", x.bow(65536));
        check.same("just that", x.run(0, 1), 1);
        check.yes("65535", x.bow(65535));
        check.same("a part too long", x.run(0, 1), 0);
        check.yes("back", x.bow(16777216));
        check.same("again", x.run(0, 1), 1);
    }

    /** "its length in parts is ... not above BOW". */
    private static void bowInParts() {
        FaultRips x = row(6);
        x.piece(10, 10, 60, 1);
        int[] bows = {60, 59, 30, 29, 20, 19, 10, 9, 1};
        int[] due = {1, 2, 2, 3, 3, 6, 6, 0, 0};
        for (int i = 0; i < bows.length; i++) {
            check.yes("bow", x.bow(bows[i]));
            check.same("bow " + bows[i], x.run(1, 1), due[i]);
        }
        FaultRips y = new FaultRips(30, 10, 10);
        y.piece(30, 10, 10, 1);
        y.bow(10);
        check.same("width is no length", y.run(0, 1), 1);
    }

    /** "no fault that it does not allow overlaps it (also by less than a step". */
    private static void lessThanAStep() {
        check.same("a part in the first corner", struck(0, 10, 10, 1, 1), "1,1,1");
        check.same("a part in the last corner", struck(0, 19, 19, 1, 1), "1,1,1");
        check.same("a part on each side of a corner", struck(0, 9, 9, 2, 2), "0,0,2 0,1,2");
        check.same("a part on each side of an edge", struck(0, 19, 15, 2, 1), "1,1,2");
        check.same("a part into the first step", struck(0, -65535, -65535, 65536, 65536), "0,0,1");
        check.same("the last part of the board", struck(0, 29, 29, 65536, 65536), "2,2,1");
        FaultRips x = new FaultRips(39, 39, 10);
        x.piece(10, 10, 10, 1);
        x.fault(0, 0, 30, 30, 9, 9);
        check.same("a fault in what is no step", x.run(0, 2), 9);
    }

    /** "edges that touch don't)". */
    private static void edgesThatTouch() {
        check.same("a whole step: its eight neighbours touch", struck(0, 10, 10, 10, 10), "1,1,1");
        check.same("left of the board", struck(0, -65536, 0, 65536, 30), "");
        check.same("below the board", struck(0, 0, -65536, 30, 65536), "");
        check.same("right of the board", struck(0, 30, 0, 65536, 30), "");
        check.same("above the board", struck(0, 0, 30, 30, 65536), "");
        check.same("at its corner", struck(0, 30, 30, 1, 1), "");
        check.same("touching by its margin", struck(5, 35, 0, 1, 30), "");
        check.same("a part farther in", struck(6, 35, 0, 1, 30), "2,0,1 2,1,1 2,2,1");
    }

    /** "By s stages, 1 .. 3": one cuts whole lengths (ripped) or whole widths (crosscut) alone. */
    private static void byOneStage() {
        FaultRips x = new FaultRips(20, 30, 10);
        x.piece(10, 20, 20, 5);
        cut("shorter than the board", x, 0, 1, "0 ");
        cut("narrower than the board", x, 1, 1, "0 ");
        x.piece(10, 30, 30, 1);
        cut("as long as the board", x, 0, 1, "6 0,0,3,1:1 0,1,3,1:1");
        x.piece(20, 10, 10, 1);
        cut("as wide as the board", x, 1, 1, "3 0,0,1,2:2 1,0,1,2:2 2,0,1,2:2");
    }

    private static void byTwoStages() {
        FaultRips x = new FaultRips(20, 30, 10);
        x.piece(10, 20, 20, 5);
        cut("rips cut to lengths", x, 0, 2, "20 0,0,2,1:0 0,1,2,1:0");
        cut("crosscuts ripped", x, 1, 2, "20 0,0,2,1:0 0,1,2,1:0");
        x.piece(20, 10, 10, 5);
        cut("rips can't be of two widths", x, 0, 2, "20 0,0,2,1:0 0,1,2,1:0");
        cut("crosscuts can be of two lengths", x, 1, 2, "25 0,0,2,1:0 0,1,2,1:0 2,0,1,2:1");
    }

    private static void byThreeStages() {
        FaultRips x = new FaultRips(20, 30, 10);
        x.piece(10, 20, 20, 5);
        x.piece(20, 10, 10, 5);
        cut("a rip, two crosscuts, one of them ripped", x, 0, 3, "25 0,0,2,1:0 0,1,2,1:0 2,0,1,2:1");
        FaultRips y = new FaultRips(30, 20, 10);
        y.piece(20, 10, 10, 5);
        y.piece(10, 20, 20, 2);
        cut("crosscut, rip", y, 1, 2, "12 0,0,2,1:1 0,1,2,1:1 0,2,2,1:1");
        cut("one crosscut, two rips, one of them crosscut", y, 1, 3, "14 0,0,1,2:0 1,0,1,2:0 0,2,2,1:1");
    }

    /** Each piece has its own place, by faults that it alone allows; four stages would cut all five of them. */
    private static void noFourthStage() {
        FaultRips x = new FaultRips(40, 30, 10);
        x.piece(20, 10, 10, 2);
        x.piece(10, 20, 20, 1);
        x.piece(30, 10, 10, 3);
        x.piece(10, 30, 30, 1);
        x.fault(0, 0, 0, 20, 20, 20);
        x.fault(0, 1, 0, 10, 20, 10);
        x.fault(0, 2, 20, 10, 10, 30);
        x.fault(0, 3, 0, 0, 30, 10);
        for (int i = 0; i < 4; i++) {
            x.allows(i, 0, i);
        }
        cut("ripped first", x, 0, 3, "10 0,0,3,1:3 0,2,1,2:0 1,2,1,2:0 2,1,1,3:2");
        cut("crosscut first", x, 1, 3, "9 0,0,3,1:3 0,1,2,1:1 0,2,1,2:0 1,2,1,2:0");
    }

    /** "each with a PLAN of s - 1 stages cut the other way that has a piece at least, or single steps that are WASTE". */
    private static void noPieceAtLeast() {
        FaultRips x = new FaultRips(50, 40, 10);
        cut("no pieces are told", x, 0, 3, "0 ");
        check.same("all is left", Check.rows(x), "0,0,4 0,1,4 0,2,4 0,3,4 0,4,4");
        x.piece(20, 40, 40, 1);
        x.gang(20);
        x.fault(0, 0, 0, 20, 1, 1);
        cut("a step of WASTE between rips of two", x, 0, 1, "8 0,0,4,2:0 0,3,4,2:0");
        x.fault(0, 0, 0, 0, 1, 1);
        cut("WASTE at the begin", x, 0, 2, "4 0,3,4,2:0");
        x.fault(0, 0, 0, 40, 1, 1);
        cut("WASTE all over", x, 0, 3, "0 ");
    }

    /** "or single steps that are WASTE": two of them are no longer segment, so that the piece begins behind the first. */
    private static void singleStepsOfWaste() {
        FaultRips x = row(5);
        x.piece(10, 20, 20, 1);
        x.fault(0, 0, 5, 5, 1, 1);
        x.fault(0, 0, 45, 5, 1, 1);
        for (int stages = 1; stages <= 3; stages++) {
            cut("crosscut in " + stages, x, 1, stages, "2 1,0,2,1:0");
        }
        cut("ripped in two", x, 0, 2, "2 1,0,2,1:0");
        FaultRips y = new FaultRips(50, 10, 10);
        y.piece(20, 10, 10, 1);
        y.fault(0, 0, 5, 5, 1, 1);
        y.fault(0, 0, 5, 45, 1, 1);
        for (int stages = 1; stages <= 3; stages++) {
            cut("ripped in " + stages, y, 0, stages, "1 0,1,1,2:0");
        }
        cut("crosscut in two", y, 1, 2, "1 0,1,1,2:0");
    }

    /** "The BEST one is worth most (by WORTH times steps of length of all its pieces)". */
    private static void worthMost() {
        FaultRips x = row(6);
        x.piece(10, 40, 40, 1);
        x.piece(10, 30, 30, 1);
        cut("two of three rather than one of four", x, 1, 1, "6 0,0,3,1:1 3,0,3,1:1");
        x.piece(10, 10, 10, 2);
        cut("more pieces that are worth more", x, 1, 1,
                "12 0,0,1,1:2 1,0,1,1:2 2,0,1,1:2 3,0,1,1:2 4,0,1,1:2 5,0,1,1:2");
        x.piece(10, 50, 50, 3);
        cut("a long one and a short one", x, 1, 1, "17 0,0,5,1:3 5,0,1,1:2");
    }

    /** "of several it has the fewest pieces". */
    private static void fewestPieces() {
        FaultRips x = row(6);
        x.piece(10, 10, 10, 1);
        x.piece(10, 30, 40, 1);
        cut("two of three rather than four, one, one", x, 1, 1, "6 0,0,3,1:1 3,0,3,1:1");
        FaultRips y = new FaultRips(20, 20, 10);
        y.piece(10, 20, 20, 1);
        y.piece(20, 10, 20, 2);
        cut("one of all the board", y, 0, 2, "4 0,0,2,2:1");
        cut("crosscut as well", y, 1, 3, "4 0,0,2,2:1");
        y.piece(10, 10, 10, 1);
        cut("fewest before longest", y, 0, 1, "4 0,0,2,2:1");
    }

    /** "then, from its begin on, where two go on otherwise, it has the longer segment there". */
    private static void longerSegment() {
        FaultRips x = row(6);
        x.piece(10, 10, 50, 1);
        cut("5 and 1 of six", x, 1, 1, "6 0,0,5,1:0 5,0,1,1:0");
        x.bow(40);
        cut("4 and 2", x, 1, 1, "6 0,0,4,1:0 4,0,2,1:0");
        x.bow(30);
        cut("3 and 3", x, 1, 1, "6 0,0,3,1:0 3,0,3,1:0");
        FaultRips y = new FaultRips(40, 10, 10);
        y.piece(10, 10, 10, 1);
        y.piece(20, 10, 10, 1);
        y.piece(30, 10, 10, 3);
        cut("rips of 3 and 1", y, 0, 1, "4 0,0,1,3:2 0,3,1,1:0");
        FaultRips z = row(7);
        z.piece(10, 20, 30, 1);
        cut("behind the first, too", z, 1, 1, "7 0,0,3,1:0 3,0,2,1:0 5,0,2,1:0");
    }

    /** "(WASTE last)". */
    private static void wasteLast() {
        FaultRips x = row(5);
        x.piece(10, 20, 20, 1);
        cut("at the end", x, 1, 1, "4 0,0,2,1:0 2,0,2,1:0");
        x.fault(0, 0, 25, 5, 1, 1);
        cut("in the middle", x, 1, 1, "4 0,0,2,1:0 3,0,2,1:0");
        x.fault(0, 0, 5, 5, 1, 1);
        cut("at the begin", x, 1, 1, "2 3,0,2,1:0");
        FaultRips y = new FaultRips(50, 10, 10);
        y.piece(20, 10, 10, 1);
        cut("above the rips", y, 0, 1, "2 0,0,1,2:0 0,2,1,2:0");
        FaultRips z = row(4);
        z.piece(10, 30, 30, 1);
        z.piece(10, 10, 10, 4);
        z.fault(0, 0, 5, 5, 1, 1);
        z.fault(0, 0, 25, 5, 1, 1);
        z.allows(0, 0, 0);
        cut("where it is worth more", z, 1, 1, "8 1,0,1,1:1 3,0,1,1:1");
    }

    /** "each segment having its own BEST plan": the order in which pieces are met is that of its segments. */
    private static void ownBestPlan() {
        FaultRips x = grid(2, 2);
        cut("rip by rip", x, 0, 2, "4 0,0,1,1:0 1,0,1,1:0 0,1,1,1:0 1,1,1,1:0");
        cut("crosscut by crosscut", x, 1, 2, "4 0,0,1,1:0 0,1,1,1:0 1,0,1,1:0 1,1,1,1:0");
        cut("one rip of crosscuts", x, 0, 3, "4 0,0,1,1:0 0,1,1,1:0 1,0,1,1:0 1,1,1,1:0");
        cut("one crosscut of rips", x, 1, 3, "4 0,0,1,1:0 1,0,1,1:0 0,1,1,1:0 1,1,1,1:0");
        FaultRips y = new FaultRips(20, 30, 10);
        y.piece(10, 10, 20, 1);
        y.piece(20, 10, 10, 1);
        cut("each rip has the longer one first", y, 0, 2, "6 0,0,2,1:0 2,0,1,1:0 0,1,2,1:0 2,1,1,1:0");
        cut("each crosscut has its fewest", y, 1, 2, "6 0,0,2,1:0 0,1,2,1:0 2,0,1,1:0 2,1,1,1:0");
    }

    /** "By no stage it is the piece that is worth most, of several that with the least number." */
    private static void leastNumber() {
        FaultRips x = row(3);
        x.piece(10, 30, 30, 1);
        x.piece(10, 10, 30, 1);
        x.piece(1, 30, 30, 1);
        cut("the first of three", x, 0, 1, "3 0,0,3,1:0");
        x.piece(10, 30, 30, 2);
        cut("the last is worth more", x, 0, 1, "6 0,0,3,1:3");
        x.piece(10, 30, 30, 2);
        cut("one more is not", x, 0, 1, "6 0,0,3,1:3");
        x.fault(1, 0, 5, 5, 1, 1);
        x.allows(4, 1, 0);
        cut("but for a fault", x, 0, 1, "6 0,0,3,1:4");
        x.allows(0, 1, 0);
        x.bow(20);
        cut("none as long", x, 1, 1, "2 1,0,2,1:1");
    }

    /** "The board's segments of its first stage, when it is RIPPED, must have a width of the GANG". */
    private static void gangOfTheFirstStage() {
        FaultRips x = new FaultRips(40, 30, 10);
        x.piece(10, 30, 30, 1);
        x.piece(20, 30, 30, 1);
        x.piece(30, 30, 30, 1);
        x.gang(20);
        String twos = "6 0,0,3,2:1 0,2,3,2:1";
        cut("twos", x, 0, 1, twos);
        cut("twos, crosscut", x, 0, 2, twos);
        cut("twos, crosscut, ripped", x, 0, 3, "12 0,0,3,1:0 0,1,3,1:0 0,2,3,1:0 0,3,3,1:0");
        cut("crosscut first, then ripped", x, 1, 2, "12 0,0,3,1:0 0,1,3,1:0 0,2,3,1:0 0,3,3,1:0");
        cut("crosscut first, in three", x, 1, 3, "12 0,0,3,1:0 0,1,3,1:0 0,2,3,1:0 0,3,3,1:0");
        x.gang(30);
        cut("twos rather than a three", x, 0, 1, twos);
        x.gang(1);
        cut("ones as well", x, 0, 1, "12 0,0,3,1:0 0,1,3,1:0 0,2,3,1:0 0,3,3,1:0");
        FaultRips y = new FaultRips(100, 10, 10);
        y.piece(100, 10, 10, 1);
        y.gang(90);
        check.same("nine of ten steps", y.run(0, 1), 0);
        y.gang(91);
        check.same("all ten", y.run(0, 1), 1);
        FaultRips z = new FaultRips(20, 10, 10);
        z.piece(20, 10, 10, 1);
        z.gang(65536);
        check.same("none as wide", z.run(0, 3), 0);
        check.same("crosscut first is free of it", z.run(1, 1), 1);
        check.same("rounds are not", gangRounds(), 0);
    }

    private static int gangRounds() {
        FaultRips x = grid(2, 2);
        x.gang(30);
        x.prices(1);
        return x.at(FaultRips.NONE, 0);
    }

    /** "if one was told". */
    private static void gangNotTold() {
        FaultRips x = new FaultRips(30, 10, 10);
        x.piece(20, 10, 10, 2);
        x.piece(10, 10, 10, 1);
        cut("any width", x, 0, 1, "3 0,0,1,2:0 0,2,1,1:1");
        check.argument("a width that is refused", () -> Check.bit(x.gang(0)));
        cut("was not told", x, 0, 1, "3 0,0,1,2:0 0,2,1,1:1");
        check.yes("one", x.gang(10));
        cut("was told", x, 0, 1, "3 0,0,1,1:1 0,1,1,1:1 0,2,1,1:1");
    }

    private static FaultRips cutOnce() {
        FaultRips x = grid(1, 2);
        x.run(0, 2);
        return x;
    }

    private static boolean tell(FaultRips x, int which) {
        switch (which) {
            case 0: return x.fault(0, 0, 500, 500, 1, 1);
            case 1: return x.piece(65536, 1, 1, 1) == 1;
            case 2: return x.allows(0, 0, 0);
            case 3: return x.gang(10);
            case 4: return x.need(0, 2);
            case 5: return x.margin(1);
            default: return x.bow(10);
        }
    }

    private static String ask(FaultRips x, int which) {
        switch (which) {
            case 0: return Check.answer(x::worth);
            case 1: return Check.answer(() -> x.at(0, 2));
            case 2: return Check.answer(() -> x.at(FaultRips.NONE, 0));
            case 3: return Check.answer(() -> Check.bit(x.clear2(1)));
            case 4: return Check.answer(x::bound);
            case 5: return Check.answer(() -> x.price(0, 1));
            case 6: return Check.answer(() -> x.salvage(FaultRips.NONE, 0));
            case 7: return Check.answer(() -> x.panel(2, 1));
            default: return Check.answer(() -> Check.bit(x.greatest()));
        }
    }

    /** "IllegalStateException: no plan was made since something was told": none of these changes what is best. */
    private static void noPlanSinceTold() {
        String[] due = {"2", "1", "2", "1", "2", "2", "0", "1", "1"};
        for (int told = 0; told < 7; told++) {
            for (int asked = 0; asked < 9; asked++) {
                String name = "told " + told + " asked " + asked;
                FaultRips x = cutOnce();
                check.same(name + " before", ask(x, asked), due[asked]);
                check.yes(name, tell(x, told));
                check.same(name + " behind", ask(x, asked), "throws IllegalStateException");
                check.same(name + " still", ask(x, asked), "throws IllegalStateException");
                if (told % 2 == 0) {
                    x.run(0, 2);
                } else {
                    x.prices(1);
                }
                check.same(name + " cut again", ask(x, asked), due[asked]);
            }
        }
        for (int asked = 0; asked < 9; asked++) {
            check.same("asked " + asked + " of a new one", ask(grid(1, 2), asked), "throws IllegalStateException");
            check.same("asked " + asked + " of an empty one", ask(new FaultRips(10, 10, 10), asked), "throws IllegalStateException");
        }
    }
}
