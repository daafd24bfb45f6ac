import java.util.ArrayList;
import java.util.List;

/** Promise 17: panels, also against a trial of every set of pieces. */
public final class PanelTest {
    private static final Check check = new Check();

    public static void main(String[] args) {
        wrong();
        examples();
        everySet();
        wide();
        check.end("PanelTest");
    }

    private static String panel(FaultRips x, int width) {
        StringBuilder text = new StringBuilder();
        int k = 0;
        for (; k < 300 && x.panel(width, k) != FaultRips.NONE; k++) {
            text.append(k == 0 ? "" : " ").append(x.panel(width, k));
        }
        check.same("behind the last", x.panel(width, k + 1), FaultRips.NONE);
        check.same("far behind", x.panel(width, Integer.MAX_VALUE), FaultRips.NONE);
        return text.toString();
    }

    private static void wrong() {
        FaultRips x = new FaultRips(30, 40, 10);
        check.state("no plan before width", () -> x.panel(0, -1));
        x.run(0, 1);
        check.argument("width 0", () -> x.panel(0, 0));
        check.argument("width 101", () -> x.panel(101, 0));
        check.argument("width -1", () -> x.panel(Integer.MIN_VALUE, 0));
        check.argument("k -1", () -> x.panel(1, -1));
        check.argument("k least", () -> x.panel(1, Integer.MIN_VALUE));
        check.same("no pieces, no panel", x.panel(100, 0), FaultRips.NONE);
        x.piece(1, 1, 1, 1);
        check.state("once told", () -> x.panel(1, 0));
    }

    /** A row of crosscuts; each fault leaves a width: 3, 1, 2, 2, 1 steps, by their order. */
    private static FaultRips odd() {
        FaultRips x = new FaultRips(30, 50, 10);
        int[] wide = {3, 1, 2, 2, 1};
        x.piece(10, 10, 10, 1);
        x.piece(20, 10, 10, 10);
        x.piece(30, 10, 10, 100);
        for (int i = 0; i < wide.length; i++) {
            if (wide[i] < 3) {
                x.fault(0, 0, 10 * i, 10 * wide[i], 10, 30 - 10 * wide[i]);
            }
        }
        x.run(1, 2);
        check.same("widths", Check.pieces(x), "0,0,1,3:2 1,0,1,1:0 2,0,1,2:1 3,0,1,2:1 4,0,1,1:0");
        return x;
    }

    private static void examples() {
        FaultRips x = odd();
        check.same("1", panel(x, 1), "1");
        check.same("2: one rather than two", panel(x, 2), "2");
        check.same("3", panel(x, 3), "0");
        check.same("4: least numbers", panel(x, 4), "0 1");
        check.same("5", panel(x, 5), "0 2");
        check.same("6: three, the least", panel(x, 6), "0 1 2");
        check.same("7", panel(x, 7), "0 2 3");
        check.same("8", panel(x, 8), "0 1 2 3");
        check.same("9: all", panel(x, 9), "0 1 2 3 4");
        check.same("10: none", panel(x, 10), "");
        check.same("100: none", panel(x, 100), "");
    }

    private static void everySet() {
        for (int seed = 1; seed < 40; seed++) {
            int[] wide = widths(someBoard(seed));
            for (int width = 1; width <= 24 && wide.length <= 14; width++) {
                check.same("seed " + seed + " width " + width, panel(someBoard(seed), width), bestSet(wide, width));
            }
        }
    }

    private static int[] widths(FaultRips x) {
        int[] wide = new int[x.at(FaultRips.NONE, 3)];
        for (int i = 0; i < wide.length; i++) {
            wide[i] = x.at(i, 3);
        }
        return wide;
    }

    private static FaultRips someBoard(int seed) {
        FaultRips x = new FaultRips(7, 4 + seed % 4, 1);
        x.piece(1 + seed % 3, 1, 2, 3);
        x.piece(3, 2, 2, 1 + seed % 7);
        x.piece(4 + seed % 2, 1, 3, 5);
        for (int i = 0; i < seed % 6; i++) {
            x.fault(0, 0, (seed * 7 + i * 5) % 7, (seed * 3 + i * 4) % 7, 1, 1);
        }
        x.run(seed % 2, 1 + seed % 3);
        return x;
    }

    private static String bestSet(int[] wide, int width) {
        List<Integer> best = null;
        for (int set = 1; set < 1 << wide.length; set++) {
            List<Integer> members = new ArrayList<>();
            int sum = 0;
            for (int i = 0; i < wide.length; i++) {
                if ((set >> i & 1) == 1) {
                    members.add(i);
                    sum += wide[i];
                }
            }
            if (sum == width && (best == null || isBetter(members, best))) {
                best = members;
            }
        }
        return best == null ? "" : best.toString().replaceAll("[\\[\\],]", "");
    }

    private static boolean isBetter(List<Integer> one, List<Integer> other) {
        if (one.size() != other.size()) {
            return one.size() < other.size();
        }
        for (int i = 0; i < one.size(); i++) {
            if (!one.get(i).equals(other.get(i))) {
                return one.get(i) < other.get(i);
            }
        }
        return false;
    }

    private static void wide() {
        FaultRips x = new FaultRips(10, 24, 1);
        x.piece(1, 1, 1, 1);
        x.run(0, 2);
        for (int k = 0; k < 100; k++) {
            check.same("100 of one step", x.panel(100, k), k);
        }
        check.same("no more", x.panel(100, 100), FaultRips.NONE);
        FaultRips y = new FaultRips(10, 24, 1);
        y.piece(10, 1, 1, 1);
        y.run(1, 1);
        check.same("ten of ten steps", panel(y, 100), "0 1 2 3 4 5 6 7 8 9");
        check.same("99", panel(y, 99), "");
    }
}
