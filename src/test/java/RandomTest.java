import java.util.Random;
import java.util.function.LongSupplier;

/** Long mixed runs of calls, good ones and wrong ones, against the Model; the seeds are fixed. */
public final class RandomTest {
    private static final Check check = new Check();
    /** What an object answers behind its 512th call is free. */
    private static final int MOST_CALLS = 512;
    private final Random random;
    private final FaultRips real;
    private final Model model;
    private final int step;
    private final int wide;
    private final int along;
    private final String name;
    private final StringBuilder told = new StringBuilder();
    private int calls = 0;

    private RandomTest(long seed, int mostWide, int mostAlong, boolean everySequence) {
        random = new Random(seed);
        step = random.nextInt(4) == 0 ? 1 : 1 + random.nextInt(20);
        wide = random.nextInt(mostWide + 1);
        along = random.nextInt(mostAlong + 1);
        int width = wide * step + random.nextInt(step);
        int length = along * step + random.nextInt(step);
        real = new FaultRips(width, length, step);
        model = new Model(width, length, step, everySequence);
        name = "seed " + seed + " board " + width + " " + length + " " + step;
    }

    private void both(String call, LongSupplier ofReal, LongSupplier ofModel) {
        if (calls >= MOST_CALLS) {
            return;
        }
        calls++;
        String due = Check.answer(ofModel);
        String got = Check.answer(ofReal);
        told.append(' ').append(call);
        check.same(got.equals(due) ? "" : name + told + ":", got, due);
        told.append('=').append(due);
    }

    private int around(int low, int high) {
        int odd = random.nextInt(40);
        return odd == 0 ? low - 1 : odd == 1 ? high + 1 : low + random.nextInt(high - low + 1);
    }

    private int parts(int steps) {
        return Math.max(1, random.nextInt((steps + 1) * step));
    }

    /** Few kinds mostly, so that what is allowed and what is there often agree. */
    private int someKind() {
        return random.nextInt(4) == 0 ? around(0, 7) : random.nextInt(3);
    }

    private void tell() {
        int piece = around(0, 7);
        switch (random.nextInt(9)) {
            case 0, 1 -> {
                int face = around(0, 1);
                int kind = someKind();
                int x = random.nextInt(60) == 0 ? around(-65536, 65536) : around(-step, along * step + step);
                int y = random.nextInt(60) == 0 ? around(-65536, 65536) : around(-step, wide * step + step);
                int w = random.nextInt(60) == 0 ? around(0, 65536) : around(0, step * 2);
                int h = random.nextInt(60) == 0 ? around(0, 65536) : around(0, step * 2);
                both("fault(" + face + "," + kind + "," + x + "," + y + "," + w + "," + h + ")",
                        () -> Check.bit(real.fault(face, kind, x, y, w, h)),
                        () -> Check.bit(model.fault(face, kind, x, y, w, h)));
            }
            case 2, 3 -> tellPiece();
            case 4 -> {
                int face = around(0, 1);
                int kind = someKind();
                both("allows(" + piece + "," + face + "," + kind + ")",
                        () -> Check.bit(real.allows(piece, face, kind)), () -> Check.bit(model.allows(piece, face, kind)));
            }
            case 5 -> {
                int width = random.nextInt(20) == 0 ? around(1, 65536) : parts(wide);
                if (random.nextInt(3) == 0) {
                    both("gang(" + width + ")", () -> Check.bit(real.gang(width)), () -> Check.bit(model.gang(width)));
                }
            }
            case 6 -> {
                int n = random.nextInt(20) == 0 ? around(0, 1000) : around(0, 4);
                both("need(" + piece + "," + n + ")", () -> Check.bit(real.need(piece, n)), () -> Check.bit(model.need(piece, n)));
            }
            case 7 -> {
                int v = random.nextInt(20) == 0 ? around(0, 65536) : around(0, step / 2);
                both("margin(" + v + ")", () -> Check.bit(real.margin(v)), () -> Check.bit(model.margin(v)));
            }
            default -> {
                int most = random.nextInt(4) == 0 ? parts(along) : around(16777215, 16777216);
                both("bow(" + most + ")", () -> Check.bit(real.bow(most)), () -> Check.bit(model.bow(most)));
            }
        }
    }

    private void tellPiece() {
        int width = random.nextInt(40) == 0 ? around(1, 65536) : parts(Math.min(3, wide));
        int low = parts(Math.min(4, along));
        int high = low + random.nextInt(4 * step) - (random.nextInt(20) == 0 ? step : 0);
        long worth = random.nextInt(10) == 0 ? around(1, 100000) : random.nextInt(3) == 0 ? 300 + random.nextInt(300) : 1 + random.nextInt(5);
        both("piece(" + width + "," + low + "," + high + "," + worth + ")",
                () -> real.piece(width, low, high, worth), () -> model.piece(width, low, high, worth));
    }

    private void plan() {
        if (random.nextBoolean()) {
            int way = around(0, 1);
            int stages = around(1, 3);
            both("run(" + way + "," + stages + ")", () -> real.run(way, stages), () -> model.run(way, stages));
        } else {
            int rounds = around(1, 6);
            both("prices(" + rounds + ")", () -> real.prices(rounds), () -> model.prices(rounds));
        }
    }

    private void ask() {
        both("worth()", real::worth, model::worth);
        both("bound()", real::bound, model::bound);
        both("greatest()", () -> Check.bit(real.greatest()), () -> Check.bit(model.greatest()));
        for (int i = 0; i < 12; i++) {
            int k = around(-1, 6) + (random.nextInt(4) == 0 ? random.nextInt(200) : 0);
            int what = around(0, 5);
            both("at(" + k + "," + what + ")", () -> real.at(k, what), () -> model.at(k, what));
            int what2 = around(0, 2);
            both("salvage(" + k + "," + what2 + ")", () -> real.salvage(k, what2), () -> model.salvage(k, what2));
            both("clear2(" + k + ")", () -> Check.bit(real.clear2(k)), () -> Check.bit(model.clear2(k)));
            both("price(" + k + "," + what2 + ")", () -> real.price(k, what2), () -> model.price(k, what2));
        }
        for (int i = 0; i < 4; i++) {
            int width = random.nextInt(3) == 0 ? around(1, 100) : around(1, 12);
            int k = around(0, 4);
            both("panel(" + width + "," + k + ")", () -> real.panel(width, k), () -> model.panel(width, k));
        }
    }

    /** All pieces of a small plan; of a great one some, so that calls are left. */
    private void askPieces() {
        String due = Check.answer(() -> model.at(-1, 0));
        int n = due.startsWith("throws") ? 0 : Integer.parseInt(due);
        int first = n <= 8 ? 0 : random.nextInt(n - 7);
        for (int k = first; k < n && k < first + 8; k++) {
            for (int what = 0; what < 6; what++) {
                int k2 = k;
                int what2 = what;
                both("at(" + k + "," + what + ")", () -> real.at(k2, what2), () -> model.at(k2, what2));
            }
        }
    }

    private void go(int turns) {
        for (int i = 0; i < turns; i++) {
            int tells = random.nextInt(3) == 0 ? random.nextInt(8) : random.nextInt(3);
            for (int j = 0; j < tells; j++) {
                tell();
            }
            if (random.nextInt(12) != 0) {
                plan();
            }
            askPieces();
            if (random.nextInt(2) == 0) {
                ask();
            }
        }
    }

    public static void main(String[] args) {
        int small = args.length > 0 ? Integer.parseInt(args[0]) : 2500;
        int large = args.length > 1 ? Integer.parseInt(args[1]) : 200;
        for (int seed = 0; seed < small; seed++) {
            new RandomTest(seed, 4, 6, true).go(8);
        }
        for (int seed = 0; seed < large; seed++) {
            new RandomTest(1000000 + seed, 12, 26, false).go(8);
        }
        check.end("RandomTest");
    }
}
