/** Promises 10, 14, 15 and 18: rounds of prices, BOUND, and whether the plan is the greatest. */
public final class PricesTest {
    private static final Check check = new Check();

    public static void main(String[] args) {
        withoutPlan();
        wrongRounds();
        rounds();
        nearPrices();
        settledByPrice();
        settledAtOnce();
        earliest();
        takenOff();
        needOfNone();
        cutAsLatestRun();
        boundBehindRun();
        price();
        check.end("PricesTest");
    }

    private static void withoutPlan() {
        FaultRips x = new FaultRips(10, 10, 10);
        check.state("bound", x::bound);
        check.state("price", () -> x.price(5, 5));
        check.state("greatest", () -> Check.bit(x.greatest()));
        check.same("one round without pieces", x.prices(6), 1);
        check.same("bound of nothing", x.bound(), 0);
        check.yes("nothing is greatest", x.greatest());
        x.piece(1, 1, 1, 1);
        check.state("bound once told", x::bound);
        check.state("price once told", () -> x.price(0, 0));
        check.state("greatest once told", () -> Check.bit(x.greatest()));
    }

    /** Four steps in a row; piece 0 is worth most there, but there may be two of it alone. */
    private static FaultRips four(int first, int second) {
        FaultRips x = new FaultRips(10, 40, 10);
        x.piece(10, 10, 10, first);
        x.piece(10, 10, 10, second);
        x.need(0, 2);
        return x;
    }

    private static void wrongRounds() {
        FaultRips x = four(5, 3);
        x.prices(2);
        check.argument("0", () -> x.prices(0));
        check.argument("7", () -> x.prices(7));
        check.argument("-1", () -> x.prices(Integer.MIN_VALUE));
        check.same("the plan stands", x.worth(), 12);
        check.same("the price stands", x.price(0, 0), 512);
        x.margin(1);
        check.argument("7, once told", () -> x.prices(7));
        check.state("no plan by that", x::worth);
    }

    private static void round(FaultRips x, int rounds, long worth, long bound, long price) {
        check.same(rounds + " rounds", x.prices(rounds), rounds);
        check.same(rounds + " rounds' worth", x.worth(), worth);
        check.same(rounds + " rounds' bound", x.bound(), bound);
        check.same(rounds + " rounds' price", x.price(0, 0), price);
        check.no(rounds + " rounds' plan is not known to be greatest", x.greatest());
    }

    private static void rounds() {
        FaultRips x = four(5, 3);
        round(x, 1, 10, 20, 0);
        check.same("the latest are off", Check.pieces(x), "0,0,1,1:0 1,0,1,1:0");
        check.same("what is off is left over", Check.rows(x), "2,0,2");
        check.same("two are left", x.price(0, 1), 2);
        round(x, 2, 12, 20, 512);
        check.same("the other piece alone", Check.pieces(x), "0,0,1,1:1 1,0,1,1:1 2,0,1,1:1 3,0,1,1:1");
        round(x, 3, 12, 20, 256);
        round(x, 4, 12, 20, 86);
        round(x, 5, 12, 20, 0);
        check.same("the plan of a round before the last", x.price(0, 1), 0);
        round(x, 6, 12, 20, 102);
    }

    private static void nearPrices() {
        FaultRips x = four(600, 300);
        round(x, 1, 1200, 2400, 0);
        check.same("the last round's plan, less two", x.price(0, 1), 2);
        round(x, 2, 1200, 2224, 512);
        check.same("a round's plan without too many", x.price(1, 1), 4);
        round(x, 3, 1200, 1888, 256);
        check.same("behind one with too many", x.price(0, 1), 0);
        round(x, 4, 1200, 1888, 426);
        round(x, 5, 1200, 1804, 298);
        round(x, 6, 1200, 1804, 400);
    }

    private static void settledByPrice() {
        FaultRips x = new FaultRips(10, 40, 10);
        x.piece(10, 10, 20, 300);
        x.fault(0, 0, 15, 5, 1, 1);
        x.need(0, 1);
        check.same("ends in the third round", x.prices(6), 3);
        check.same("price", x.price(0, 0), 384);
        check.same("worth", x.worth(), 600);
        check.same("bound", x.bound(), 600);
        check.yes("greatest", x.greatest());
        check.same("the longer one stays", Check.pieces(x), "2,0,2,1:0");
        check.same("a told bound of rounds comes first", x.prices(2), 2);
        check.same("value of the second", x.bound(), 644);
        check.same("the first piece stays", Check.pieces(x), "0,0,1,1:0");
        check.same("the piece's true worth", x.at(0, 5), 300);
        check.no("not known", x.greatest());
    }

    private static void settledAtOnce() {
        FaultRips x = four(5, 3);
        x.need(0, 4);
        check.same("just as many", x.prices(6), 1);
        check.yes("greatest", x.greatest());
        x.need(0, 1000);
        check.same("fewer at price 0", x.prices(6), 1);
        check.same("all of it", x.worth(), 20);
        check.same("bound without price", x.bound(), 20);
    }

    /** Rounds 3 and 4 end in piece 2, round 5 in piece 0, at as much worth. */
    private static void earliest() {
        FaultRips x = new FaultRips(10, 30, 10);
        x.piece(10, 10, 20, 300);
        x.piece(10, 10, 20, 400);
        x.piece(10, 10, 20, 300);
        x.need(0, 1);
        x.need(1, 1);
        check.same("ends in the fifth round", x.prices(6), 5);
        check.same("the earliest plan", Check.pieces(x), "0,0,2,1:1 2,0,1,1:2");
        check.same("worth", x.worth(), 1100);
        check.same("bound", x.bound(), 1100);
        check.yes("greatest", x.greatest());
        check.same("last round's price of 0", x.price(0, 0), 0);
        check.same("last round's price of 1", x.price(1, 0), 128);
    }

    /** Of two sorts with a NEED only that with too many loses pieces, its latest by the plan's order. */
    private static void takenOff() {
        FaultRips x = new FaultRips(20, 40, 10);
        x.piece(10, 10, 10, 5);
        x.piece(10, 20, 20, 6);
        x.fault(1, 2, 0, 10, 40, 1);
        x.allows(0, 1, 2);
        x.need(0, 3);
        x.need(1, 2);
        x.run(0, 2);
        check.same("before", Check.pieces(x), "0,0,2,1:1 2,0,2,1:1 0,1,1,1:0 1,1,1,1:0 2,1,1,1:0 3,1,1,1:0");
        x.prices(1);
        check.same("behind", Check.pieces(x), "0,0,2,1:1 2,0,2,1:1 0,1,1,1:0 1,1,1,1:0 2,1,1,1:0");
        check.same("its row", Check.rows(x), "3,1,1");
        check.same("worth", x.worth(), 39);
        check.same("bound", x.bound(), 44);
    }

    private static void needOfNone() {
        FaultRips x = four(5, 3);
        x.need(0, 0);
        check.same("none of it", x.prices(1), 1);
        check.same("all is off", x.worth(), 0);
        check.same("all is waste", Check.rows(x), "0,0,4");
        check.same("a price and none settles", x.prices(6), 2);
        check.same("the other's worth", x.worth(), 12);
        check.same("bound is that", x.bound(), 12);
        check.yes("known", x.greatest());
        check.same("price", x.price(0, 0), 1024);
    }

    private static FaultRips square() {
        FaultRips x = new FaultRips(20, 20, 10);
        x.piece(10, 10, 10, 1);
        return x;
    }

    private static void cutAsLatestRun() {
        String rips = "0,0,1,1:0 1,0,1,1:0 0,1,1,1:0 1,1,1,1:0";
        String crosscuts = "0,0,1,1:0 0,1,1,1:0 1,0,1,1:0 1,1,1,1:0";
        FaultRips x = square();
        x.prices(1);
        check.same("ripped first in two stages", Check.pieces(x), rips);
        x.run(1, 2);
        x.margin(1);
        x.prices(1);
        check.same("crosscut first, also once told", Check.pieces(x), crosscuts);
        x.run(0, 3);
        check.same("three stages: crosscut within one rip", Check.pieces(x), crosscuts);
        x.prices(3);
        check.same("as that", Check.pieces(x), crosscuts);
        x.run(0, 1);
        x.prices(1);
        check.same("one stage", x.worth(), 0);
        FaultRips y = square();
        y.gang(20);
        y.prices(2);
        check.same("the gang's rips", y.worth(), 0);
    }

    private static void boundBehindRun() {
        FaultRips x = four(5, 3);
        x.run(1, 1);
        check.same("worth of run", x.bound(), 20);
        check.yes("needs aside", x.greatest());
        x.need(0, 0);
        x.prices(6);
        check.same("of prices", x.bound(), 12);
        x.run(1, 1);
        check.same("of run again", x.bound(), 20);
        check.yes("greatest again", x.greatest());
        check.same("price 0 behind run", x.price(0, 0), 0);
        check.same("how many", x.price(0, 1), 4);
        check.same("need", x.price(0, 2), 0);
    }

    private static void price() {
        FaultRips x = four(5, 3);
        x.prices(2);
        check.same("without need: price", x.price(1, 0), 0);
        check.same("without need: how many", x.price(1, 1), 4);
        check.same("without need: NONE", x.price(1, 2), FaultRips.NONE);
        check.same("need", x.price(0, 2), 2);
        check.index("piece -1", () -> x.price(-1, 0));
        check.index("piece 2", () -> x.price(2, 0));
        check.index("part -1", () -> x.price(0, -1));
        check.index("part 3", () -> x.price(0, 3));
    }
}
