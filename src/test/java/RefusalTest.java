import java.util.ArrayList;
import java.util.List;
import java.util.function.Supplier;
import java.util.function.ToLongFunction;

/**
 * "A call that throws changes nothing; of several exceptions the one named first is thrown." "What answers false was
 * refused, or is so already, and nothing is changed." Each refused call is made on an object in each state, and what
 * the object answers from then on is compared with a twin that was not called so.
 */
public final class RefusalTest {
    private static final Check check = new Check();
    private static final String INDEX = "throws IndexOutOfBoundsException";
    private static final String STATE = "throws IllegalStateException";
    private static final String ARGUMENT = "throws IllegalArgumentException";
    private static final String FALSE = "0";
    private static final int LEAST = Integer.MIN_VALUE;
    private static final int MOST = Integer.MAX_VALUE;

    private record Call(String name, ToLongFunction<FaultRips> call, String due) { }

    private static final List<Call> calls = new ArrayList<>();

    private static void due(String due, String name, ToLongFunction<FaultRips> call) {
        calls.add(new Call(name, call, due));
    }

    public static void main(String[] args) {
        everywhere(wrongTelling());
        everywhere(wrongCutting());
        told(falseTelling());
        told(noSuchPiece());
        planned(wrongAsking());
        unplanned(askingWithoutPlan());
        full(tellingTooMuch());
        check.end("RefusalTest");
    }

    /** 3 by 4 steps of 10 parts, a gang, faults on both faces, needs. */
    private static FaultRips some() {
        FaultRips x = new FaultRips(30, 40, 10);
        x.piece(10, 10, 20, 300);
        x.piece(20, 20, 30, 200);
        x.allows(1, 1, 2);
        x.fault(1, 2, 35, 5, 3, 3);
        x.fault(0, 1, 12, 22, 2, 2);
        x.need(0, 1);
        x.margin(1);
        x.bow(30);
        x.gang(10);
        x.gang(20);
        return x;
    }

    private static FaultRips someRun() {
        FaultRips x = some();
        x.run(1, 2);
        return x;
    }

    private static FaultRips somePriced() {
        FaultRips x = some();
        x.run(0, 3);
        x.prices(3);
        return x;
    }

    private static FaultRips someToldSince() {
        FaultRips x = some();
        x.run(1, 3);
        x.need(1, 1);
        return x;
    }

    private static FaultRips fullOfAll() {
        FaultRips x = some();
        for (int i = 2; i < 8; i++) {
            x.piece(10 * i, 40, 40, 1);
        }
        for (int i = 2; i < 20; i++) {
            x.fault(0, i % 8, -100, -100, 1, 1);
        }
        x.run(1, 1);
        return x;
    }

    private static FaultRips empty() {
        return new FaultRips(30, 40, 10);
    }

    private static FaultRips emptyRun() {
        FaultRips x = empty();
        x.run(1, 1);
        return x;
    }

    private static void everywhere(List<Call> list) {
        told(list);
        each("empty", list, RefusalTest::empty);
        each("empty run", list, RefusalTest::emptyRun);
    }

    private static void told(List<Call> list) {
        planned(list);
        each("never cut", list, RefusalTest::some);
        each("told since", list, RefusalTest::someToldSince);
    }

    private static void planned(List<Call> list) {
        each("run", list, RefusalTest::someRun);
        each("priced", list, RefusalTest::somePriced);
    }

    private static void unplanned(List<Call> list) {
        each("empty", list, RefusalTest::empty);
        each("never cut", list, RefusalTest::some);
        each("told since", list, RefusalTest::someToldSince);
    }

    private static void full(List<Call> list) {
        each("full", list, RefusalTest::fullOfAll);
    }

    private static void each(String state, List<Call> list, Supplier<FaultRips> maker) {
        String due = later(maker.get());
        for (Call c : list) {
            FaultRips x = maker.get();
            String name = c.name + " on " + state;
            check.same(name, Check.answer(() -> c.call.applyAsLong(x)), c.due);
            check.same("behind " + name, later(x), due);
        }
    }

    /** What the object answers now, and behind prices, more of all that can be told, and a run. */
    private static String later(FaultRips x) {
        String now = Seen.all(x);
        String rounds = x.prices(3) + " rounds: " + Seen.all(x);
        String told = Check.answer(() -> x.piece(20, 10, 20, 250)) + " " + Check.answer(() -> Check.bit(x.fault(0, 5, 31, 15, 2, 2)))
                + " " + Check.answer(() -> Check.bit(x.allows(0, 0, 5))) + " " + Check.answer(() -> Check.bit(x.need(1, 1)))
                + x.gang(30) + x.margin(1) + x.bow(30);
        String again = Seen.all(x);
        return now + "; " + rounds + "; " + told + "; " + again + "; " + x.run(1, 3) + ": " + Seen.all(x)
                + "; " + x.run(0, 2) + ": " + Seen.all(x);
    }

    private static List<Call> taken() {
        List<Call> list = new ArrayList<>(calls);
        calls.clear();
        return list;
    }

    private static List<Call> wrongTelling() {
        for (int face : new int[] {-1, 2, LEAST, MOST}) {
            due(INDEX, "fault of face " + face, x -> Check.bit(x.fault(face, 0, 0, 0, 1, 1)));
            due(INDEX, "fault of face " + face + " before kind", x -> Check.bit(x.fault(face, 8, 0, 0, 1, 1)));
            due(INDEX, "fault of face " + face + " before w", x -> Check.bit(x.fault(face, 0, 0, 0, -1, 1)));
            due(INDEX, "fault of face " + face + " before no w", x -> Check.bit(x.fault(face, 0, 0, 0, 0, 1)));
        }
        for (int kind : new int[] {-1, 8, LEAST, MOST}) {
            due(ARGUMENT, "fault of kind " + kind, x -> Check.bit(x.fault(0, kind, 0, 0, 1, 1)));
            due(ARGUMENT, "fault of kind " + kind + " and no h", x -> Check.bit(x.fault(1, kind, 0, 0, 1, 0)));
        }
        for (int v : new int[] {-65537, 65537, LEAST, MOST}) {
            due(ARGUMENT, "fault at x " + v, x -> Check.bit(x.fault(0, 0, v, 0, 1, 1)));
            due(ARGUMENT, "fault at y " + v, x -> Check.bit(x.fault(0, 0, 0, v, 1, 1)));
        }
        for (int v : new int[] {-1, 65537, LEAST, MOST}) {
            due(ARGUMENT, "fault of w " + v, x -> Check.bit(x.fault(0, 0, 0, 0, v, 1)));
            due(ARGUMENT, "fault of h " + v, x -> Check.bit(x.fault(0, 0, 0, 0, 1, v)));
            due(ARGUMENT, "fault of w " + v + " and no h", x -> Check.bit(x.fault(0, 0, 0, 0, v, 0)));
            due(ARGUMENT, "fault of h " + v + " and no w", x -> Check.bit(x.fault(0, 0, 0, 0, 0, v)));
            due(ARGUMENT, "margin " + v, x -> Check.bit(x.margin(v)));
        }
        for (int v : new int[] {0, -1, 65537, LEAST, MOST}) {
            due(ARGUMENT, "piece of width " + v, x -> x.piece(v, 1, 1, 1));
            due(ARGUMENT, "piece of least length " + v, x -> x.piece(1, v, 65536, 1));
            due(ARGUMENT, "piece of greatest length " + v, x -> x.piece(1, 1, v, 1));
            due(ARGUMENT, "piece of both lengths " + v, x -> x.piece(1, v, v, 1));
            due(ARGUMENT, "gang of width " + v, x -> Check.bit(x.gang(v)));
        }
        due(ARGUMENT, "piece of lengths 2 .. 1", x -> x.piece(1, 2, 1, 1));
        due(ARGUMENT, "piece of lengths 65536 .. 65535", x -> x.piece(1, 65536, 65535, 1));
        for (long v : new long[] {0, -1, 100001, (1L << 32) + 1, -(1L << 32) + 1, Long.MIN_VALUE, Long.MAX_VALUE}) {
            due(ARGUMENT, "piece of worth " + v, x -> x.piece(1, 1, 1, v));
        }
        for (int v : new int[] {0, -1, 16777217, LEAST, MOST}) {
            due(ARGUMENT, "bow " + v, x -> Check.bit(x.bow(v)));
        }
        for (int piece : new int[] {-1, 8, LEAST, MOST}) {
            due(INDEX, "allows of piece " + piece, x -> Check.bit(x.allows(piece, 0, 0)));
            due(INDEX, "allows of piece " + piece + " before kind", x -> Check.bit(x.allows(piece, 0, 8)));
            due(INDEX, "need of piece " + piece, x -> Check.bit(x.need(piece, 1)));
            due(INDEX, "need of piece " + piece + " before n", x -> Check.bit(x.need(piece, -1)));
        }
        return taken();
    }

    private static List<Call> wrongCutting() {
        for (int v : new int[] {-1, 2, LEAST, MOST}) {
            due(ARGUMENT, "run of way " + v, x -> x.run(v, 1));
        }
        for (int v : new int[] {0, -1, 4, LEAST, MOST}) {
            due(ARGUMENT, "run of stages " + v + " ripped", x -> x.run(0, v));
            due(ARGUMENT, "run of stages " + v + " crosscut", x -> x.run(1, v));
        }
        due(ARGUMENT, "run of neither", x -> x.run(2, 4));
        for (int v : new int[] {0, -1, 7, LEAST, MOST}) {
            due(ARGUMENT, "prices of rounds " + v, x -> x.prices(v));
        }
        return taken();
    }

    private static List<Call> falseTelling() {
        due(FALSE, "fault without w", x -> Check.bit(x.fault(0, 0, 0, 0, 0, 40)));
        due(FALSE, "fault without h", x -> Check.bit(x.fault(1, 7, 0, 0, 40, 0)));
        due(FALSE, "fault without either", x -> Check.bit(x.fault(1, 7, 0, 0, 0, 0)));
        due(FALSE, "allows again", x -> Check.bit(x.allows(1, 1, 2)));
        due(FALSE, "gang again", x -> Check.bit(x.gang(20)));
        due(FALSE, "gang of as many steps, least", x -> Check.bit(x.gang(11)));
        due(FALSE, "gang of one step, least", x -> Check.bit(x.gang(1)));
        due(FALSE, "need again", x -> Check.bit(x.need(0, 1)));
        due(FALSE, "margin again", x -> Check.bit(x.margin(1)));
        due(FALSE, "bow again", x -> Check.bit(x.bow(30)));
        return taken();
    }

    /** There are pieces 0 and 1. */
    private static List<Call> noSuchPiece() {
        due(INDEX, "allows of piece 2", x -> Check.bit(x.allows(2, 0, 0)));
        due(INDEX, "allows of face 2", x -> Check.bit(x.allows(1, 2, 0)));
        due(INDEX, "allows of face -1", x -> Check.bit(x.allows(1, -1, 0)));
        due(INDEX, "allows of face 2 before kind", x -> Check.bit(x.allows(1, 2, 8)));
        due(INDEX, "allows of face most", x -> Check.bit(x.allows(1, MOST, 0)));
        due(INDEX, "allows of face least", x -> Check.bit(x.allows(1, LEAST, -1)));
        due(ARGUMENT, "allows of kind 8", x -> Check.bit(x.allows(1, 1, 8)));
        due(ARGUMENT, "allows of kind -1", x -> Check.bit(x.allows(1, 0, -1)));
        due(ARGUMENT, "allows of kind most", x -> Check.bit(x.allows(0, 0, MOST)));
        due(ARGUMENT, "allows of kind least", x -> Check.bit(x.allows(0, 1, LEAST)));
        due(INDEX, "need of piece 2", x -> Check.bit(x.need(2, 1)));
        due(INDEX, "need of piece 2 before n", x -> Check.bit(x.need(2, 1001)));
        for (int n : new int[] {-1, 1001, LEAST, MOST}) {
            due(ARGUMENT, "need of " + n, x -> Check.bit(x.need(0, n)));
        }
        return taken();
    }

    private static List<Call> wrongAsking() {
        for (int k : new int[] {-2, 100, LEAST, MOST}) {
            due(INDEX, "at " + k, x -> x.at(k, 0));
            due(INDEX, "at " + k + " before what", x -> x.at(k, 6));
            due(INDEX, "salvage " + k, x -> x.salvage(k, 0));
            due(INDEX, "salvage " + k + " before what", x -> x.salvage(k, 3));
            due(INDEX, "clear2 " + k, x -> Check.bit(x.clear2(k)));
        }
        due(INDEX, "at how many there are", x -> x.at(x.at(-1, 0), 0));
        due(INDEX, "salvage how many there are", x -> x.salvage(x.salvage(-1, 0), 0));
        due(INDEX, "clear2 how many there are", x -> Check.bit(x.clear2(x.at(-1, 0))));
        due(INDEX, "clear2 NONE", x -> Check.bit(x.clear2(FaultRips.NONE)));
        for (int what : new int[] {-1, 6, LEAST, MOST}) {
            due(ARGUMENT, "at what " + what, x -> x.at(0, what));
            due(ARGUMENT, "at NONE what " + what, x -> x.at(FaultRips.NONE, what));
        }
        for (int what : new int[] {-1, 3, LEAST, MOST}) {
            due(ARGUMENT, "salvage what " + what, x -> x.salvage(0, what));
            due(ARGUMENT, "salvage NONE what " + what, x -> x.salvage(FaultRips.NONE, what));
            due(INDEX, "price part " + what, x -> x.price(0, what));
        }
        for (int piece : new int[] {-1, 2, 8, LEAST, MOST}) {
            due(INDEX, "price of piece " + piece, x -> x.price(piece, 0));
            due(INDEX, "price of piece " + piece + " and no part", x -> x.price(piece, 3));
        }
        for (int width : new int[] {0, -1, 101, LEAST, MOST}) {
            due(ARGUMENT, "panel of width " + width, x -> x.panel(width, 0));
            due(ARGUMENT, "panel of width " + width + " and no k", x -> x.panel(width, -1));
        }
        due(ARGUMENT, "panel's -1", x -> x.panel(1, -1));
        due(ARGUMENT, "panel's least", x -> x.panel(100, LEAST));
        return taken();
    }

    /** IllegalStateException comes first wherever it is named first. */
    private static List<Call> askingWithoutPlan() {
        due(STATE, "worth", x -> x.worth());
        due(STATE, "bound", x -> x.bound());
        due(STATE, "greatest", x -> Check.bit(x.greatest()));
        for (int k : new int[] {-1, 0, -2, 100, LEAST, MOST}) {
            due(STATE, "at " + k, x -> x.at(k, 0));
            due(STATE, "at " + k + " and no what", x -> x.at(k, 6));
            due(STATE, "clear2 " + k, x -> Check.bit(x.clear2(k)));
            due(STATE, "price of " + k, x -> x.price(k, 0));
            due(STATE, "price of " + k + " and no part", x -> x.price(k, 3));
            due(STATE, "salvage " + k, x -> x.salvage(k, 0));
            due(STATE, "salvage " + k + " and no what", x -> x.salvage(k, 3));
            due(STATE, "panel of width " + k, x -> x.panel(k, 0));
            due(STATE, "panel's " + k, x -> x.panel(1, k));
        }
        return taken();
    }

    /** 20 faults and 8 pieces: no room comes behind no such face, and before every number. */
    private static List<Call> tellingTooMuch() {
        due(STATE, "a 21st fault", x -> Check.bit(x.fault(0, 0, 0, 0, 1, 1)));
        due(STATE, "a 21st fault on face 1", x -> Check.bit(x.fault(1, 7, 0, 0, 1, 1)));
        due(STATE, "a 21st fault of kind 8", x -> Check.bit(x.fault(0, 8, 0, 0, 1, 1)));
        due(STATE, "a 21st fault at x 65537", x -> Check.bit(x.fault(0, 0, 65537, 0, 1, 1)));
        due(STATE, "a 21st fault at y -65537", x -> Check.bit(x.fault(0, 0, 0, -65537, 1, 1)));
        due(STATE, "a 21st fault of w -1", x -> Check.bit(x.fault(0, 0, 0, 0, -1, 1)));
        due(STATE, "a 21st fault of h 65537", x -> Check.bit(x.fault(0, 0, 0, 0, 1, 65537)));
        due(INDEX, "a 21st fault of face 2", x -> Check.bit(x.fault(2, 0, 0, 0, 1, 1)));
        due(INDEX, "a 21st fault of face -1 and kind 8", x -> Check.bit(x.fault(-1, 8, 0, 0, 1, 1)));
        due(STATE, "a ninth piece", x -> x.piece(1, 1, 1, 1));
        due(STATE, "a ninth piece of width 0", x -> x.piece(0, 1, 1, 1));
        due(STATE, "a ninth piece of length 0", x -> x.piece(1, 0, 1, 1));
        due(STATE, "a ninth piece of lengths 2 .. 1", x -> x.piece(1, 2, 1, 1));
        due(STATE, "a ninth piece of worth 0", x -> x.piece(1, 1, 1, 0));
        due(INDEX, "allows of piece 8", x -> Check.bit(x.allows(8, 0, 0)));
        due(INDEX, "need of piece 8", x -> Check.bit(x.need(8, 0)));
        return taken();
    }
}
