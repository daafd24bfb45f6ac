/** The sentences of PRICED in "Terms" that name an edge: a method each, with the sentence above it. */
public final class RoundsTest {
    private static final Check check = new Check();

    public static void main(String[] args) {
        zeroAtFirst();
        zeroAgain();
        priceOfAPiece();
        belowZero();
        takenOnlyAsSaid();
        value();
        strides();
        notLessThanZero();
        pricesOfNeedsAlone();
        noMoreOfAny();
        justThatOfEach();
        priceAboveZero();
        roundsTold();
        leastValue();
        worthMostOfAllRounds();
        earliest();
        latestTakenOff();
        takenOffOfEach();
        needAtTheEdge();
        check.end("RoundsTest");
    }

    private static FaultRips row(int steps) {
        return new FaultRips(10, 10 * steps, 10);
    }

    /** A single step, and a piece that there may be none of. */
    private static FaultRips unwanted(int worth) {
        FaultRips x = row(1);
        x.piece(10, 10, 10, worth);
        x.need(0, 0);
        return x;
    }

    /** Four steps, piece 0 worth more, of which there may be two. */
    private static FaultRips twoOfFour(int first, int second) {
        FaultRips x = row(4);
        x.piece(10, 10, 10, first);
        x.piece(10, 10, 10, second);
        x.need(0, 2);
        return x;
    }

    private static String seen(FaultRips x, int rounds) {
        int n = x.prices(rounds);
        return n + " rounds, worth " + x.worth() + " of " + x.bound() + ": " + Check.pieces(x);
    }

    /** "prices of pieces with a NEED are 0 at first": the first round is as without them. */
    private static void zeroAtFirst() {
        FaultRips x = twoOfFour(5, 3);
        x.need(0, 4);
        x.need(1, 0);
        check.same("as run", seen(x, 6), "1 rounds, worth 20 of 20: 0,0,1,1:0 1,0,1,1:0 2,0,1,1:0 3,0,1,1:0");
        check.same("price 0", x.price(0, 0), 0);
        check.same("price 1", x.price(1, 0), 0);
    }

    /** They are so at the begin of each prices(), whatever was before. */
    private static void zeroAgain() {
        FaultRips x = twoOfFour(600, 300);
        String due = seen(x, 3);
        check.same("price", x.price(0, 0), 256);
        check.same("again", seen(x, 3), due);
        check.same("price again", x.price(0, 0), 256);
        x.run(0, 2);
        check.same("behind run", seen(x, 3), due);
        x.margin(3);
        check.same("behind something told", seen(x, 3), due);
        check.same("one round", x.prices(1), 1);
        check.same("its price", x.price(0, 0), 0);
    }

    /** "each piece being worth its price less": a piece, not a step of it. */
    private static void priceOfAPiece() {
        FaultRips x = row(4);
        x.piece(10, 10, 20, 300);
        x.fault(0, 0, 15, 5, 1, 1);
        x.need(0, 1);
        check.same("344 and 44", seen(x, 2), "2 rounds, worth 300 of 644: 0,0,1,1:0");
        check.same("price", x.price(0, 0), 256);
        check.same("216 and none", seen(x, 3), "3 rounds, worth 600 of 600: 2,0,2,1:0");
        check.same("price then", x.price(0, 0), 384);
        check.same("its true worth", x.at(0, 5), 600);
    }

    /** "(a plan's worth may be below 0 by that": such a piece is not cut, so that none is behind the second round. */
    private static void belowZero() {
        check.same("255 less 256", seen(unwanted(255), 6), "2 rounds, worth 0 of 0: ");
        check.same("1 less 256", seen(unwanted(1), 6), "2 rounds, worth 0 of 0: ");
        FaultRips x = row(2);
        x.piece(10, 10, 10, 100);
        x.piece(10, 20, 20, 1);
        x.need(0, 0);
        check.same("another instead", seen(x, 6), "2 rounds, worth 2 of 2: 0,0,2,1:1");
    }

    /** "a segment is taken only as said)": one worth nothing is none the better, and it has a piece more. */
    private static void takenOnlyAsSaid() {
        FaultRips x = unwanted(256);
        check.same("256 less 256", seen(x, 6), "2 rounds, worth 0 of 0: ");
        check.same("price", x.price(0, 0), 256);
        FaultRips y = unwanted(257);
        check.same("257 less 256, two rounds", seen(y, 2), "2 rounds, worth 0 of 1: ");
        check.same("257 less 256", seen(y, 6), "3 rounds, worth 0 of 0: ");
        check.same("price then", y.price(0, 0), 384);
        FaultRips z = new FaultRips(20, 20, 10);
        z.piece(10, 10, 10, 1024);
        z.need(0, 0);
        z.run(1, 3);
        check.same("1024 less 1024 in three stages", seen(z, 6), "2 rounds, worth 0 of 0: ");
        check.same("WASTE", Check.rows(z), "0,0,2 0,1,2");
    }

    /** "VALUE is that worth and, for each piece with a NEED, its price times it." */
    private static void value() {
        FaultRips x = twoOfFour(600, 300);
        check.same("round 1: 4 * 600", seen(x, 1), "1 rounds, worth 1200 of 2400: 0,0,1,1:0 1,0,1,1:0");
        check.same("round 2: 4 * 300 + 512 * 2", seen(x, 2),
                "2 rounds, worth 1200 of 2224: 0,0,1,1:1 1,0,1,1:1 2,0,1,1:1 3,0,1,1:1");
        check.same("round 3: 4 * 344 + 256 * 2", seen(x, 3),
                "3 rounds, worth 1200 of 1888: 0,0,1,1:1 1,0,1,1:1 2,0,1,1:1 3,0,1,1:1");
        FaultRips y = twoOfFour(600, 300);
        y.need(0, 3);
        y.need(1, 1);
        check.same("of both: 4 * 344 + 256 * 3", seen(y, 2), "2 rounds, worth 1800 of 2144: 0,0,1,1:0 1,0,1,1:0 2,0,1,1:0");
    }

    private static void price(FaultRips x, int rounds, long due) {
        x.prices(rounds);
        check.same("price in round " + rounds, x.price(0, 0), due);
    }

    /** "price + (how many the plan has - NEED) * max(1, 256 / r)": r = 1 .. 5, divided without a rest. */
    private static void strides() {
        FaultRips x = row(1);
        x.piece(10, 10, 10, 100000);
        x.need(0, 0);
        price(x, 1, 0);
        price(x, 2, 256);
        price(x, 3, 256 + 128);
        price(x, 4, 256 + 128 + 85);
        price(x, 5, 256 + 128 + 85 + 64);
        price(x, 6, 256 + 128 + 85 + 64 + 51);
        FaultRips y = new FaultRips(100, 240, 10);
        y.piece(10, 10, 10, 100000);
        y.need(0, 1);
        price(y, 2, 239 * 256);
        price(y, 3, 239 * 384);
        check.same("the price of 240 pieces", y.worth(), 100000);
        price(y, 6, 239 * 384 + 239 * 85 - 64 - 51);
    }

    /** "not less than 0". */
    private static void notLessThanZero() {
        FaultRips x = twoOfFour(5, 3);
        price(x, 2, 512);
        price(x, 3, 256);
        price(x, 4, 86);
        price(x, 5, 0);
        price(x, 6, 102);
        FaultRips y = row(2);
        y.piece(10, 10, 10, 5);
        y.piece(10, 10, 10, 3);
        y.need(0, 1000);
        y.need(1, 0);
        check.same("fewer than its need", seen(y, 6), "1 rounds, worth 10 of 10: 0,0,1,1:0 1,0,1,1:0");
        y.fault(0, 0, 0, 0, 1, 1);
        y.allows(1, 0, 0);
        check.same("in both rounds", seen(y, 6), "2 rounds, worth 5 of 5: 1,0,1,1:0");
        check.same("the price of what is few", y.price(0, 0), 0);
        check.same("the price of what is too much", y.price(1, 0), 256);
    }

    /** "each such price": one without a NEED has none. */
    private static void pricesOfNeedsAlone() {
        FaultRips x = twoOfFour(5, 3);
        for (int rounds = 1; rounds <= 6; rounds++) {
            x.prices(rounds);
            check.same("no price", x.price(1, 0), 0);
            check.same("no need", x.price(1, 2), FaultRips.NONE);
        }
        FaultRips y = row(4);
        y.piece(10, 10, 10, 5);
        check.same("no needs at all", seen(y, 6), "1 rounds, worth 20 of 20: 0,0,1,1:0 1,0,1,1:0 2,0,1,1:0 3,0,1,1:0");
    }

    /** "It ends behind a round whose plan has no more of any than its NEED". */
    private static void noMoreOfAny() {
        FaultRips x = twoOfFour(5, 3);
        x.need(0, 4);
        check.same("just its need", x.prices(6), 1);
        x.need(0, 5);
        check.same("one fewer", x.prices(6), 1);
        x.need(0, 3);
        check.same("one more", x.prices(6), 6);
        FaultRips y = row(2);
        y.piece(10, 10, 10, 5);
        y.piece(10, 10, 10, 4);
        y.fault(0, 0, 0, 0, 1, 1);
        y.allows(1, 0, 0);
        y.need(0, 1);
        y.need(1, 0);
        check.same("one has more, the other just that", y.prices(6), 2);
        y.need(1, 1);
        check.same("both have just that", y.prices(6), 1);
    }

    /** "and just that of each that had a price above 0". */
    private static void justThatOfEach() {
        FaultRips x = twoOfFour(5, 3);
        check.same("none of piece 0 in the second round is not its need", x.prices(3), 3);
        x.need(0, 0);
        check.same("none is its need", x.prices(6), 2);
        FaultRips y = row(3);
        y.piece(10, 10, 10, 400);
        y.piece(10, 20, 20, 150);
        y.need(0, 1);
        check.same("one of three", seen(y, 6), "3 rounds, worth 700 of 700: 0,0,2,1:1 2,0,1,1:0");
    }

    /** A price of 1 is above 0: it is so in round 4, whose plan has none of piece 1. */
    private static void priceAboveZero() {
        FaultRips x = row(5);
        x.piece(10, 10, 30, 500);
        x.piece(10, 10, 10, 500);
        x.piece(10, 10, 10, 500);
        x.need(0, 0);
        x.need(1, 3);
        x.prices(4);
        check.same("price in round 4", x.price(1, 0), 1);
        check.same("none in the plan", x.price(1, 1), 0);
        check.same("goes on", x.prices(6), 6);
        x.prices(5);
        check.same("price in round 5", x.price(1, 0), 0);
    }

    /** "or behind as many rounds as are told". */
    private static void roundsTold() {
        FaultRips x = twoOfFour(5, 3);
        for (int rounds = 1; rounds <= 6; rounds++) {
            check.same("rounds", x.prices(rounds), rounds);
        }
        FaultRips y = unwanted(257);
        check.same("1 of 3", y.prices(1), 1);
        check.same("2 of 3", y.prices(2), 2);
        check.same("3 of 3", y.prices(3), 3);
        check.same("3 of 4", y.prices(4), 3);
    }

    /** "BOUND is the least VALUE", not the last round's. */
    private static void leastValue() {
        FaultRips x = twoOfFour(600, 300);
        long[] due = {2400, 2224, 1888, 1888, 1804, 1804};
        for (int rounds = 1; rounds <= 6; rounds++) {
            x.prices(rounds);
            check.same("bound of " + rounds, x.bound(), due[rounds - 1]);
        }
    }

    /** "THE PLAN is that of all rounds without too many of any that is worth most by true worth". */
    private static void worthMostOfAllRounds() {
        FaultRips x = row(4);
        x.piece(10, 10, 10, 300);
        x.piece(10, 20, 30, 100);
        x.need(0, 3);
        check.same("the second round's", seen(x, 5), "5 rounds, worth 400 of 1051: 0,0,2,1:1 2,0,2,1:1");
        check.same("the sixth is worth more", seen(x, 6), "6 rounds, worth 600 of 1000: 0,0,3,1:1 3,0,1,1:0");
        FaultRips y = row(5);
        y.piece(10, 10, 10, 400);
        y.piece(10, 20, 20, 100);
        y.need(0, 2);
        y.need(1, 4);
        check.same("the fourth is worth more than the last", seen(y, 6), "6 rounds, worth 800 of 1142: 0,0,2,1:1 2,0,2,1:1 4,0,1,1:0");
    }

    /** "of several the earliest". */
    private static void earliest() {
        FaultRips x = row(3);
        x.piece(10, 10, 20, 300);
        x.piece(10, 10, 20, 400);
        x.piece(10, 10, 20, 300);
        x.need(0, 1);
        x.need(1, 1);
        check.same("the third round's", seen(x, 3), "3 rounds, worth 1100 of 1156: 0,0,2,1:1 2,0,1,1:2");
        check.same("not the fifth's", seen(x, 6), "5 rounds, worth 1100 of 1100: 0,0,2,1:1 2,0,1,1:2");
    }

    /** "without one the last round's, from which the latest pieces of those that are too many are taken off (they are WASTE)." */
    private static void latestTakenOff() {
        FaultRips x = new FaultRips(20, 30, 10);
        x.piece(10, 10, 10, 100000);
        x.need(0, 4);
        check.same("rip by rip", seen(x, 1), "1 rounds, worth 400000 of 600000: 0,0,1,1:0 1,0,1,1:0 2,0,1,1:0 0,1,1,1:0");
        check.same("rows", Check.rows(x), "1,1,2");
        check.same("how many", x.price(0, 1), 4);
        x.run(1, 2);
        check.same("crosscut by crosscut", seen(x, 1), "1 rounds, worth 400000 of 600000: 0,0,1,1:0 0,1,1,1:0 1,0,1,1:0 1,1,1,1:0");
        check.same("rows then", Check.rows(x), "2,0,1 2,1,1");
        check.same("six rounds", seen(x, 6), "6 rounds, worth 400000 of 597664: 0,0,1,1:0 0,1,1,1:0 1,0,1,1:0 1,1,1,1:0");
        FaultRips y = row(3);
        y.piece(10, 10, 20, 100000);
        y.need(0, 1);
        check.same("the last round's", seen(y, 3), "3 rounds, worth 200000 of 299616: 0,0,2,1:0");
    }

    private static void takenOffOfEach() {
        FaultRips x = row(6);
        x.piece(10, 10, 10, 100000);
        x.piece(10, 10, 10, 90000);
        x.piece(10, 10, 10, 80000);
        for (int i = 0; i < 6; i++) {
            x.fault(0, i % 3, 10 * i, 0, 10, 10);
        }
        for (int i = 0; i < 3; i++) {
            x.allows(i, 0, i);
        }
        check.same("no needs", seen(x, 1),
                "1 rounds, worth 540000 of 540000: 0,0,1,1:0 1,0,1,1:1 2,0,1,1:2 3,0,1,1:0 4,0,1,1:1 5,0,1,1:2");
        x.need(0, 1);
        x.need(1, 0);
        check.same("one and two off", seen(x, 1), "1 rounds, worth 260000 of 540000: 0,0,1,1:0 2,0,1,1:2 5,0,1,1:2");
        check.same("rows", Check.rows(x), "1,0,1 3,0,2");
        x.need(2, 2);
        check.same("none off of just its need", seen(x, 1), "1 rounds, worth 260000 of 540000: 0,0,1,1:0 2,0,1,1:2 5,0,1,1:2");
        x.need(2, 0);
        x.need(0, 0);
        check.same("all off", seen(x, 1), "1 rounds, worth 0 of 540000: ");
        check.same("one row", Check.rows(x), "0,0,6");
        check.same("no piece", x.at(FaultRips.NONE, 0), 0);
    }

    /** "perhaps a NEED, how many there may be at most". */
    private static void needAtTheEdge() {
        for (int need = 0; need <= 4; need++) {
            FaultRips x = row(3);
            x.piece(10, 10, 10, 7);
            x.need(0, need);
            check.same("rounds of need " + need, x.prices(1), 1);
            check.same("need " + need, x.price(0, 1), Math.min(3, need));
            check.same("worth of need " + need, x.worth(), 7 * Math.min(3, need));
        }
    }
}
