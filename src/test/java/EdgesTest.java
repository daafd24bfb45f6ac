/**
 * The edges that the sections of promises 1 to 18 name, each promise's by itself: the last number that is as said,
 * none, all, and just enough. RefusalTest has the numbers behind those edges.
 */
public final class EdgesTest {
    private static final Check check = new Check();
    private static final int LEAST = Integer.MIN_VALUE;
    private static final int MOST = Integer.MAX_VALUE;

    public static void main(String[] args) {
        widthIsTheNearest();
        lengthIsTheNearest();
        stepIsTheNearest();
        faultAtItsEdges();
        faultIsFalse();
        faultRoom();
        pieceAtItsEdges();
        pieceRoom();
        allowsAtItsEdges();
        gangAtItsEdges();
        gangOfAsMany();
        gangOfManyWidths();
        needAtItsEdges();
        marginAtItsEdges();
        bowAtItsEdges();
        runAtItsEdges();
        runIsNeedsAside();
        pricesAtTheirEdges();
        cutAsTheLatestRun();
        worthOfNothing();
        atItsEdges();
        atHowMany();
        clearOnBothFaces();
        boundOfTheLatest();
        priceOfEachPart();
        salvageRows();
        salvageOfAll();
        salvageHowMany();
        panelAtItsEdges();
        panelFewest();
        panelLeastNumbers();
        panelOfGreatNumbers();
        panelOfThePlan();
        greatestOrNot();
        check.end("EdgesTest");
    }

    private static FaultRips row(int steps) {
        return new FaultRips(10, 10 * steps, 10);
    }

    private static FaultRips ones(int wide, int along) {
        FaultRips x = new FaultRips(10 * wide, 10 * along, 10);
        x.piece(10, 10, 10, 1);
        return x;
    }

    private static void steps(String what, FaultRips x, int wide, int along) {
        x.run(0, 1);
        check.same(what + " wide", x.salvage(FaultRips.NONE, 0), wide);
        check.same(what + " along", x.salvage(0, 2), along);
    }

    /** Promise 1: "width, length and STEP are the nearest of 1 .. 65536." */
    private static void widthIsTheNearest() {
        for (int width : new int[] {0, -1, -65536, LEAST, 1}) {
            steps("width " + width, new FaultRips(width, 7, 1), 1, 7);
        }
        steps("width 2", new FaultRips(2, 7, 1), 2, 7);
        for (int width : new int[] {65536, 65537, 131072, MOST}) {
            steps("width " + width, new FaultRips(width, 65536, 65536), 1, 1);
            steps("half of width " + width, new FaultRips(width, 32768, 32768), 2, 1);
        }
        steps("width 65535", new FaultRips(65535, 32768, 32768), 1, 1);
    }

    private static void lengthIsTheNearest() {
        for (int length : new int[] {0, -1, -65536, LEAST, 1}) {
            steps("length " + length, new FaultRips(7, length, 1), 7, 1);
        }
        steps("length 2", new FaultRips(7, 2, 1), 7, 2);
        for (int length : new int[] {65536, 65537, 131072, MOST}) {
            steps("length " + length, new FaultRips(65536, length, 65536), 1, 1);
            steps("half of length " + length, new FaultRips(32768, length, 32768), 1, 2);
        }
        steps("length 65535", new FaultRips(32768, 65535, 32768), 1, 1);
    }

    private static void stepIsTheNearest() {
        for (int step : new int[] {0, -1, -65536, LEAST, 1}) {
            steps("step " + step, new FaultRips(6, 7, step), 6, 7);
        }
        steps("step 2", new FaultRips(6, 7, 2), 3, 3);
        for (int step : new int[] {65536, 65537, 131072, MOST}) {
            FaultRips x = new FaultRips(65536, 65536, step);
            steps("step " + step, x, 1, 1);
            x.piece(65536, 65536, 65536, 3);
            check.same("a piece of step " + step, x.run(0, 1), 1);
        }
    }

    /** Promise 2: kind 0 .. 7, x and y -65536 .. 65536, w and h up to 65536; a margin shows where each fault is. */
    private static void faultAtItsEdges() {
        int[][] good = {{0, 0, 0, 0, 1, 1}, {1, 7, 0, 0, 1, 1}, {0, 7, -65536, 0, 1, 1}, {1, 0, 65536, 0, 1, 1},
            {0, 3, 0, -65536, 1, 1}, {0, 3, 0, 65536, 1, 1}, {0, 3, 0, 0, 65536, 1}, {0, 3, 0, 0, 1, 65536},
            {1, 3, -65536, -65536, 65536, 65536}, {1, 3, 65536, 65536, 65536, 65536}};
        for (int[] f : good) {
            FaultRips x = ones(1, 1);
            x.margin(65536);
            check.same("before", x.run(0, 1), 1);
            check.yes("a fault", x.fault(f[0], f[1], f[2], f[3], f[4], f[5]));
            check.same("behind", x.run(0, 1), 0);
        }
        FaultRips y = new FaultRips(65536, 65536, 65536);
        y.piece(65536, 65536, 65536, 1);
        y.fault(0, 0, 65536, 0, 65536, 65536);
        y.fault(0, 0, 0, 65536, 65536, 65536);
        y.fault(0, 0, -65536, 0, 65536, 65536);
        y.fault(0, 0, 0, -65536, 65536, 65536);
        check.same("all four touch", y.run(0, 1), 1);
        y.fault(0, 0, 65535, 65535, 1, 1);
        check.same("the last part", y.run(0, 1), 0);
    }

    /** Promise 2: "false: w or h is 0". */
    private static void faultIsFalse() {
        FaultRips x = ones(1, 2);
        x.run(0, 2);
        check.no("w 0", x.fault(0, 0, 5, 5, 0, 1));
        check.no("h 0", x.fault(0, 0, 5, 5, 1, 0));
        check.no("both", x.fault(1, 7, -65536, 65536, 0, 0));
        check.no("w 0, the highest h", x.fault(0, 0, 5, 5, 0, 65536));
        check.same("the plan stands", x.worth(), 2);
        check.same("they are none", x.run(0, 2), 2);
        x.margin(65536);
        check.same("not even with a margin", x.run(0, 2), 2);
        check.yes("clear", x.clear2(0));
        check.yes("w and h 1", x.fault(0, 0, 5, 5, 1, 1));
    }

    /** Promise 2: "there are 20": what was refused takes no room. */
    private static void faultRoom() {
        FaultRips x = ones(1, 1);
        for (int i = 0; i < 25; i++) {
            check.no("w 0", x.fault(0, 0, 0, 0, 0, 1));
            check.argument("kind 8", () -> Check.bit(x.fault(0, 8, 0, 0, 1, 1)));
            check.index("face 2", () -> Check.bit(x.fault(2, 0, 0, 0, 1, 1)));
        }
        for (int i = 0; i < 20; i++) {
            check.yes("fault " + i, x.fault(0, 0, 10, 0, 1, 1));
        }
        for (int i = 0; i < 3; i++) {
            check.state("no room", () -> Check.bit(x.fault(1, 0, 0, 0, 10, 10)));
        }
        check.same("20 that touch", x.run(0, 1), 1);
        check.yes("clear", x.clear2(0));
    }

    /** Promise 3: width and lengths 1 .. 65536, worth 1 .. 100000. */
    private static void pieceAtItsEdges() {
        FaultRips x = new FaultRips(65536, 65536, 65536);
        check.same("the least of all", x.piece(1, 1, 1, 1), 0);
        check.same("it is no whole step", x.run(0, 1), 0);
        check.same("the greatest of all", x.piece(65536, 65536, 65536, 100000), 1);
        check.same("it is a step", x.run(0, 1), 1);
        check.same("worth", x.worth(), 100000);
        check.same("the widest range", x.piece(1, 1, 65536, 100000), 2);
        x.run(0, 1);
        check.same("the one before", x.at(0, 4), 1);
        FaultRips y = new FaultRips(1, 1, 1);
        check.same("of single parts", y.piece(1, 1, 1, 1), 0);
        check.same("is a step", y.run(1, 1), 1);
        check.same("is worth", y.worth(), 1);
    }

    /** Promise 3: "A piece more: its number", "there are 8": what was refused takes no number. */
    private static void pieceRoom() {
        FaultRips x = row(1);
        for (int i = 0; i < 8; i++) {
            int next = i;
            check.argument("width 0", () -> x.piece(0, 1, 1, 1));
            check.argument("worth 0", () -> x.piece(1, 1, 1, 0));
            check.argument("lengths 2 .. 1", () -> x.piece(1, 2, 1, 1));
            check.index("not there yet", () -> Check.bit(x.allows(next, 0, 0)));
            check.same("number", x.piece(10, 10, 10, 1 + i), i);
        }
        check.state("a ninth", () -> x.piece(10, 10, 10, 100));
        x.run(0, 1);
        check.same("the eighth is worth most", x.at(0, 4), 7);
        check.same("and 8 a step", x.worth(), 8);
        check.same("the eighth's count", x.price(7, 1), 1);
        check.index("a ninth's", () -> x.price(8, 1));
    }

    /** Promise 4: the first and the last piece, face and kind. */
    private static void allowsAtItsEdges() {
        FaultRips x = row(1);
        check.index("no piece yet", () -> Check.bit(x.allows(0, 0, 0)));
        for (int i = 0; i < 8; i++) {
            x.piece(10, 10, 10, 8 - i);
        }
        x.fault(0, 0, 0, 0, 1, 1);
        x.fault(1, 7, 0, 0, 1, 1);
        for (int piece : new int[] {7, 0}) {
            check.yes("face 0 kind 0", x.allows(piece, 0, 0));
            check.no("again", x.allows(piece, 0, 0));
            check.same("one of two", x.run(0, 1), piece == 7 ? 0 : 1);
            check.yes("face 1 kind 7", x.allows(piece, 1, 7));
            check.no("again", x.allows(piece, 1, 7));
            check.same("both", x.run(0, 1), 1);
            check.same("it alone", x.at(0, 4), piece);
        }
        check.yes("another piece, face 0 kind 7", x.allows(3, 0, 7));
        check.yes("another piece, face 1 kind 0", x.allows(3, 1, 0));
        check.index("piece 8", () -> Check.bit(x.allows(8, 0, 0)));
    }

    /** Promise 5: 1 .. 65536. */
    private static void gangAtItsEdges() {
        FaultRips x = new FaultRips(10, 10, 1);
        check.yes("1", x.gang(1));
        check.yes("65536", x.gang(65536));
        check.yes("65535", x.gang(65535));
        check.no("1 again", x.gang(1));
        check.no("65536 again", x.gang(65536));
        check.no("65535 again", x.gang(65535));
        FaultRips y = new FaultRips(65536, 65536, 65536);
        y.piece(1, 1, 65536, 1);
        check.yes("1 of 65536", y.gang(1));
        check.no("65536 of 65536", y.gang(65536));
        check.same("a step", y.run(0, 1), 1);
    }

    /** Promise 5: "the least number of steps that holds it; false if it has one of as many". */
    private static void gangOfAsMany() {
        FaultRips x = new FaultRips(100, 10, 10);
        check.yes("20", x.gang(20));
        check.no("11", x.gang(11));
        check.no("19", x.gang(19));
        check.yes("10", x.gang(10));
        check.no("1", x.gang(1));
        check.yes("21", x.gang(21));
        check.no("30", x.gang(30));
        check.yes("65536", x.gang(65536));
        check.no("65531", x.gang(65531));
        check.yes("65530", x.gang(65530));
        FaultRips y = new FaultRips(10, 10, 1);
        for (int width = 1; width <= 16384; width *= 2) {
            check.yes("width " + width, y.gang(width));
            check.yes("next to " + width, width < 4 || y.gang(width - 1));
        }
        for (int width = 1; width <= 16384; width *= 2) {
            check.no("again " + width, y.gang(width));
        }
        check.yes("5 is none of them", y.gang(5));
    }

    /** Promise 5: each number of steps is one of its own, however many were told. */
    private static void gangOfManyWidths() {
        for (int first : new int[] {1, 1000, 65281}) {
            FaultRips x = new FaultRips(10, 10, 1);
            for (int width = first; width < first + 256; width++) {
                check.yes("width " + width, x.gang(width));
            }
            for (int width = first; width < first + 256; width++) {
                check.no("again " + width, x.gang(width));
            }
        }
    }

    /** Promise 6: 0 .. 1000. */
    private static void needAtItsEdges() {
        FaultRips x = ones(1, 3);
        x.piece(10, 10, 10, 1);
        check.yes("0", x.need(0, 0));
        check.no("0 again", x.need(0, 0));
        check.yes("0 of another", x.need(1, 0));
        x.prices(1);
        check.same("0 is told", x.price(0, 2), 0);
        check.same("none", x.price(0, 1), 0);
        check.yes("1000", x.need(0, 1000));
        check.no("1000 again", x.need(0, 1000));
        x.prices(1);
        check.same("1000 is told", x.price(0, 2), 1000);
        check.same("three", x.price(0, 1), 3);
        check.same("the other's is its own", x.price(1, 2), 0);
        FaultRips y = row(1);
        check.index("no piece yet", () -> Check.bit(y.need(0, 0)));
    }

    /** Promise 7: 0 .. 65536. */
    private static void marginAtItsEdges() {
        FaultRips x = ones(1, 1);
        check.no("0 at first", x.margin(0));
        check.yes("1", x.margin(1));
        check.yes("65536", x.margin(65536));
        check.no("65536 again", x.margin(65536));
        x.fault(0, 0, -65536, -65536, 1, 1);
        check.same("it reaches a part", x.run(0, 1), 0);
        check.yes("65535", x.margin(65535));
        check.same("it touches", x.run(0, 1), 1);
        check.yes("0", x.margin(0));
        check.no("0 again", x.margin(0));
    }

    /** Promise 8: 1 .. 16777216. */
    private static void bowAtItsEdges() {
        FaultRips x = new FaultRips(1, 3, 1);
        x.piece(1, 1, 3, 1);
        check.no("16777216 at first", x.bow(16777216));
        check.yes("1", x.bow(1));
        check.no("1 again", x.bow(1));
        check.same("three of a step", x.run(1, 1), 3);
        check.yes("2", x.bow(2));
        check.same("two and one", x.run(1, 1), 2);
        check.yes("16777216", x.bow(16777216));
        check.no("16777216 again", x.bow(16777216));
        check.same("one of three", x.run(1, 1), 1);
    }

    /** Promise 9: way 0 or 1, stages 1 .. 3. */
    private static void runAtItsEdges() {
        FaultRips x = ones(2, 3);
        int[][] due = {{0, 6, 6}, {0, 6, 6}};
        for (int way = 0; way <= 1; way++) {
            for (int stages = 1; stages <= 3; stages++) {
                check.same("way " + way + " stages " + stages, x.run(way, stages), due[way][stages - 1]);
            }
        }
        x.piece(10, 30, 30, 1);
        check.same("one rip's stage", x.run(0, 1), 2);
        check.same("one crosscut's stage", x.run(1, 1), 0);
        x.piece(20, 10, 10, 1);
        check.same("one crosscut's stage then", x.run(1, 1), 3);
        check.same("a new object", new FaultRips(100, 240, 10).run(1, 3), 0);
    }

    /** Promise 9: "needs aside". */
    private static void runIsNeedsAside() {
        FaultRips x = ones(1, 3);
        x.need(0, 0);
        check.same("none may be", x.run(0, 2), 3);
        check.same("worth", x.worth(), 3);
        x.prices(2);
        check.same("behind prices, too", x.run(0, 2), 3);
        check.same("too many are in the plan", x.price(0, 1), 3);
    }

    /** Promise 10: rounds 1 .. 6, "how many there were". */
    private static void pricesAtTheirEdges() {
        FaultRips x = row(1);
        x.piece(10, 10, 10, 100000);
        x.need(0, 0);
        check.same("1", x.prices(1), 1);
        check.same("6", x.prices(6), 6);
        x.need(0, 1);
        check.same("1 of 6", x.prices(6), 1);
        check.same("a new object", new FaultRips(100, 240, 10).prices(6), 1);
    }

    /** Promise 10: "cut as the latest run() was (RIPPED first in two stages, if there was none)". */
    private static void cutAsTheLatestRun() {
        String rips = "0,0,1,1:0 1,0,1,1:0 0,1,1,1:0 1,1,1,1:0";
        String crosscuts = "0,0,1,1:0 0,1,1,1:0 1,0,1,1:0 1,1,1,1:0";
        FaultRips x = ones(2, 2);
        check.argument("a run that throws", () -> x.run(1, 4));
        x.prices(1);
        check.same("none yet", Check.pieces(x), rips);
        x.run(1, 2);
        x.prices(1);
        check.same("crosscut, two", Check.pieces(x), crosscuts);
        x.prices(6);
        check.same("prices() itself is no run()", Check.pieces(x), crosscuts);
        x.run(0, 1);
        x.run(1, 3);
        x.prices(6);
        check.same("crosscut, three: the latest of two", Check.pieces(x), rips);
        x.bow(10);
        x.need(0, 4);
        x.prices(2);
        check.same("though something was told since", Check.pieces(x), rips);
        check.argument("one that throws is none", () -> x.run(2, 2));
        x.run(0, 3);
        check.argument("one that throws behind it", () -> x.run(0, 0));
        x.prices(1);
        check.same("ripped, three", Check.pieces(x), crosscuts);
        x.run(1, 1);
        x.prices(1);
        check.same("crosscut, one", Check.pieces(x), "");
        FaultRips y = ones(2, 2);
        y.piece(20, 10, 10, 9);
        y.prices(1);
        check.same("two stages: a rip of two steps", Check.pieces(y), "0,0,1,2:1 1,0,1,2:1");
    }

    /** Promise 11. */
    private static void worthOfNothing() {
        FaultRips x = row(2);
        x.run(0, 1);
        check.same("nothing", x.worth(), 0);
        x.piece(10, 20, 20, 100000);
        x.run(0, 1);
        check.same("all", x.worth(), 200000);
        x.need(0, 0);
        x.prices(1);
        check.same("by true worth, when all is taken off", x.worth(), 0);
        x.need(0, 1);
        x.prices(1);
        check.same("by true worth", x.worth(), 200000);
    }

    /** Promise 12: the first and the last piece, the first and the last what. */
    private static void atItsEdges() {
        FaultRips x = new FaultRips(30, 70, 10);
        x.piece(20, 30, 30, 7);
        x.piece(10, 60, 60, 2);
        x.run(0, 2);
        int[][] due = {{0, 0, 3, 2, 0, 21}, {3, 0, 3, 2, 0, 21}, {0, 2, 6, 1, 1, 12}};
        for (int k = 0; k < 3; k++) {
            for (int what = 0; what < 6; what++) {
                check.same("piece " + k + " what " + what, x.at(k, what), due[k][what]);
            }
        }
        for (int what = 0; what < 6; what++) {
            int what2 = what;
            check.index("a fourth", () -> x.at(3, what2));
            check.index("below NONE", () -> x.at(-2, what2));
        }
    }

    /** Promise 12: "(k = NONE: how many, for each what that there is)". */
    private static void atHowMany() {
        FaultRips x = ones(2, 3);
        FaultRips none = row(3);
        x.run(0, 2);
        none.run(0, 2);
        for (int what = 0; what < 6; what++) {
            int what2 = what;
            check.same("six", x.at(FaultRips.NONE, what), 6);
            check.same("none", none.at(FaultRips.NONE, what), 0);
            check.index("the first of none", () -> none.at(0, what2));
        }
        check.argument("no such what", () -> x.at(FaultRips.NONE, 6));
        check.argument("no such what of none", () -> none.at(FaultRips.NONE, -1));
        check.index("the first of none comes before", () -> none.at(0, 6));
    }

    /** Promise 13: "no fault at all, on both faces": allowed ones count, those that touch don't. */
    private static void clearOnBothFaces() {
        for (int face = 0; face < 2; face++) {
            for (int kind = 0; kind < 8; kind++) {
                FaultRips x = ones(1, 3);
                x.allows(0, face, kind);
                x.fault(face, kind, 10, 0, 10, 10);
                x.run(1, 1);
                check.yes("before it", x.clear2(0));
                check.no("face " + face + " kind " + kind, x.clear2(1));
                check.yes("behind it", x.clear2(2));
                check.index("a fourth", () -> Check.bit(x.clear2(3)));
            }
        }
        FaultRips y = ones(1, 2);
        y.run(0, 2);
        check.yes("no faults told", y.clear2(0) && y.clear2(1));
        y.allows(0, 0, 0);
        y.fault(0, 0, 9, 9, 1, 1);
        y.prices(1);
        check.no("a part", y.clear2(0));
        check.yes("it touches the next", y.clear2(1));
        FaultRips none = row(1);
        none.run(0, 1);
        check.index("none", () -> Check.bit(none.clear2(0)));
    }

    /** Promise 14: "BOUND of the latest prices(), or, if run() was later, what that is worth." */
    private static void boundOfTheLatest() {
        FaultRips x = row(4);
        x.piece(10, 10, 10, 600);
        x.piece(10, 10, 10, 300);
        x.need(0, 2);
        x.run(1, 1);
        check.same("run", x.bound(), 2400);
        x.prices(3);
        check.same("prices later", x.bound(), 1888);
        x.prices(2);
        check.same("the latest prices, though it is more", x.bound(), 2224);
        x.run(0, 1);
        check.same("run later", x.bound(), 0);
        x.run(1, 1);
        check.same("the latest run", x.bound(), 2400);
        x.need(1, 4);
        check.state("once told", x::bound);
    }

    /** Promise 15: price (0 behind run()), how many, NEED (NONE without). */
    private static void priceOfEachPart() {
        FaultRips x = row(4);
        x.piece(10, 10, 10, 600);
        x.piece(10, 10, 10, 300);
        x.need(0, 2);
        x.prices(3);
        check.same("prices", x.price(0, 0) + " " + x.price(0, 1) + " " + x.price(0, 2), "256 0 2");
        check.same("without need", x.price(1, 0) + " " + x.price(1, 1) + " " + x.price(1, 2), "0 4 -1");
        x.run(1, 1);
        check.same("run", x.price(0, 0) + " " + x.price(0, 1) + " " + x.price(0, 2), "0 4 2");
        check.same("run, without need", x.price(1, 0) + " " + x.price(1, 1) + " " + x.price(1, 2), "0 0 -1");
        x.prices(1);
        check.same("taken off", x.price(0, 0) + " " + x.price(0, 1) + " " + x.price(0, 2), "0 2 2");
        FaultRips none = row(1);
        none.run(0, 1);
        check.index("no piece", () -> none.price(0, 0));
    }

    /** Promise 16: "in rows along x, each as long as can be, by y, then x". */
    private static void salvageRows() {
        FaultRips x = ones(3, 5);
        x.run(0, 2);
        check.same("no rows", Check.rows(x), "");
        x.fault(0, 0, 0, 0, 10, 10);
        x.fault(0, 0, 20, 0, 20, 10);
        x.fault(0, 0, 0, 10, 50, 10);
        x.fault(0, 0, 40, 20, 10, 10);
        x.run(0, 2);
        check.same("at the begin, within, whole, at the end", Check.rows(x), "0,0,1 2,0,2 0,1,5 4,2,1");
        x.run(1, 3);
        check.same("however it is cut", Check.rows(x), "0,0,1 2,0,2 0,1,5 4,2,1");
        x.need(0, 1);
        x.prices(1);
        check.same("what is taken off, too", Check.rows(x), "0,0,1 2,0,3 0,1,5 0,2,5");
    }

    private static void salvageOfAll() {
        FaultRips x = new FaultRips(10, 24, 1);
        x.run(0, 1);
        for (int y = 0; y < 10; y++) {
            check.same("whole rows", x.salvage(y, 0) + "," + x.salvage(y, 1) + "," + x.salvage(y, 2), "0," + y + ",24");
        }
        check.index("no more", () -> x.salvage(10, 0));
        FaultRips y = new FaultRips(9, 23, 1);
        y.piece(1, 1, 1, 1);
        for (int i = 0; i < 12; i++) {
            y.fault(0, 0, 2 * i, 0, 1, 10);
        }
        y.run(0, 2);
        check.same("every second step of an odd board", y.salvage(FaultRips.NONE, 0), 108);
        check.same("the last of them", y.salvage(107, 0) + "," + y.salvage(107, 1) + "," + y.salvage(107, 2), "22,8,1");
        check.index("none behind", () -> y.salvage(108, 0));
    }

    /** Promise 16: "(k = NONE: how many rows, likewise)". */
    private static void salvageHowMany() {
        FaultRips x = row(3);
        FaultRips none = ones(1, 1);
        x.run(0, 2);
        none.run(0, 1);
        for (int what = 0; what < 3; what++) {
            int what2 = what;
            check.same("one", x.salvage(FaultRips.NONE, what), 1);
            check.same("none", none.salvage(FaultRips.NONE, what), 0);
            check.index("a second", () -> x.salvage(1, what2));
            check.index("the first of none", () -> none.salvage(0, what2));
        }
        check.argument("no such what", () -> x.salvage(FaultRips.NONE, 3));
        check.argument("no such what of none", () -> none.salvage(FaultRips.NONE, -1));
        check.index("the first of none comes before", () -> none.salvage(0, 3));
    }

    private static String panel(FaultRips x, int width) {
        StringBuilder text = new StringBuilder();
        int k = 0;
        for (; k < 101 && x.panel(width, k) != FaultRips.NONE; k++) {
            text.append(k == 0 ? "" : " ").append(x.panel(width, k));
        }
        check.same("no more", x.panel(width, k + 1), FaultRips.NONE);
        return text.toString();
    }

    /** Promise 17: width 1 .. 100, k from 0 on; "NONE if there are not so many, or no panel". */
    private static void panelAtItsEdges() {
        FaultRips x = new FaultRips(100, 240, 10);
        x.piece(100, 10, 10, 1);
        x.run(1, 1);
        check.same("ten of ten steps", panel(x, 100), "0 1 2 3 4 5 6 7 8 9");
        check.same("the tenth", x.panel(100, 9), 9);
        check.same("an eleventh", x.panel(100, 10), FaultRips.NONE);
        check.same("far behind", x.panel(100, MOST), FaultRips.NONE);
        check.same("99", panel(x, 99), "");
        check.same("1", panel(x, 1), "");
        FaultRips y = new FaultRips(100, 240, 10);
        y.piece(10, 10, 10, 1);
        y.run(0, 2);
        check.same("1 of ones", panel(y, 1), "0");
        check.same("the hundredth of ones", y.panel(100, 99), 99);
        check.same("no hundred and first", y.panel(100, 100), FaultRips.NONE);
        FaultRips none = row(1);
        none.run(0, 1);
        check.same("no pieces", panel(none, 1), "");
        FaultRips few = ones(1, 3);
        few.run(0, 2);
        check.same("all", panel(few, 3), "0 1 2");
        check.same("too few", panel(few, 4), "");
    }

    /** Pieces of 3, 1, 2, 2, 1 steps of width, by faults above them. */
    private static FaultRips odd() {
        FaultRips x = new FaultRips(30, 50, 10);
        x.piece(10, 10, 10, 1);
        x.piece(20, 10, 10, 10);
        x.piece(30, 10, 10, 100);
        int[] wide = {3, 1, 2, 2, 1};
        for (int i = 0; i < 5; i++) {
            if (wide[i] < 3) {
                x.fault(0, 0, 10 * i, 10 * wide[i], 10, 30 - 10 * wide[i]);
            }
        }
        x.run(1, 2);
        return x;
    }

    /** Promise 17: "some whose widths are that together; the fewest". */
    private static void panelFewest() {
        FaultRips x = odd();
        check.same("one of 3 rather than 1 and 2", panel(x, 3), "0");
        check.same("one of 2 rather than 1 and 1", panel(x, 2), "2");
        check.same("3 and 2 rather than 1 and 2 and 2", panel(x, 5), "0 2");
        check.same("four of 8", panel(x, 8), "0 1 2 3");
        check.same("all of 9", panel(x, 9), "0 1 2 3 4");
        check.same("none of 10", panel(x, 10), "");
    }

    /** Promise 17: "then those with the least numbers, one by one from the first". */
    private static void panelLeastNumbers() {
        FaultRips x = odd();
        check.same("the first 1", panel(x, 1), "1");
        check.same("3 and the first 1, not 2 and 2", panel(x, 4), "0 1");
        check.same("3, 1, 2, not 1, 2, 2, 1", panel(x, 6), "0 1 2");
        check.same("3, 2, 2", panel(x, 7), "0 2 3");
    }

    /** 105 pieces of two steps and, behind them, six of four: the fewest have the greatest numbers. */
    private static void panelOfGreatNumbers() {
        FaultRips x = new FaultRips(100, 240, 10);
        x.piece(20, 10, 10, 1);
        x.piece(40, 10, 10, 1);
        x.fault(0, 1, 210, 0, 30, 100);
        x.allows(1, 0, 1);
        check.same("pieces", x.run(1, 2), 111);
        check.same("one of four", panel(x, 4), "105");
        check.same("four and four", panel(x, 8), "105 106");
        check.same("all six", panel(x, 24), "105 106 107 108 109 110");
        check.same("the least of two steps with six", panel(x, 26), "0 105 106 107 108 109 110");
        check.same("none of an odd width", panel(x, 25), "");
    }

    /** Promise 17: "out of pieces of the plan", also of a plan whose pieces were taken off. */
    private static void panelOfThePlan() {
        FaultRips x = ones(1, 6);
        x.run(0, 2);
        check.same("six", panel(x, 6), "0 1 2 3 4 5");
        x.need(0, 2);
        check.state("none since", () -> x.panel(1, 0));
        x.prices(1);
        check.same("two", panel(x, 2), "0 1");
        check.same("no three", panel(x, 3), "");
        x.run(0, 2);
        check.same("six again", panel(x, 6), "0 1 2 3 4 5");
    }

    /** Promise 18: "it is worth as much as BOUND", "(behind run(): needs aside)". */
    private static void greatestOrNot() {
        FaultRips x = row(4);
        x.piece(10, 10, 10, 5);
        x.piece(10, 10, 10, 3);
        x.run(1, 1);
        check.yes("run", x.greatest());
        x.need(0, 3);
        x.run(1, 1);
        check.yes("run with too many", x.greatest());
        x.prices(1);
        check.no("15 of 20", x.greatest());
        x.need(0, 4);
        x.prices(1);
        check.yes("20 of 20", x.greatest());
        x.need(0, 0);
        x.prices(1);
        check.no("0 of 20", x.greatest());
        x.prices(2);
        check.yes("12 of 12", x.greatest());
        FaultRips none = row(1);
        none.prices(1);
        check.yes("0 of 0", none.greatest());
        none.run(0, 1);
        check.yes("0 of 0 by run", none.greatest());
    }
}
