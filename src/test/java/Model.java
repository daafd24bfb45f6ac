import java.util.ArrayList;
import java.util.HashMap;
import java.util.List;
import java.util.Map;
import java.util.TreeSet;

/** The document once more, as plainly as it reads and without a thought of speed: RandomTest compares with it. */
final class Model {
    private static final class Sort {
        int wide;
        int low;
        int high;
        long worth;
        int need = -1;
        long price = 0;
        final boolean[][] allowed = new boolean[2][8];
    }

    private record Piece(int x, int y, int along, int wide, int sort) { }

    /** A segment's steps; 0 stands for a step that is WASTE. */
    private record Found(long worth, List<Piece> pieces, List<Integer> segments) {
        boolean betterThan(Found other) {
            if (other == null) {
                return true;
            }
            if (worth != other.worth) {
                return worth > other.worth;
            }
            if (pieces.size() != other.pieces.size()) {
                return pieces.size() < other.pieces.size();
            }
            for (int i = 0; i < segments.size() && i < other.segments.size(); i++) {
                if (!segments.get(i).equals(other.segments.get(i))) {
                    return segments.get(i) > other.segments.get(i);
                }
            }
            return false;
        }

        Found then(Found next, int steps) {
            List<Piece> all = new ArrayList<>(pieces);
            all.addAll(next.pieces);
            List<Integer> cuts = new ArrayList<>();
            cuts.add(steps);
            cuts.addAll(next.segments);
            return new Found(worth + next.worth, all, cuts);
        }
    }

    private static final Found NOTHING = new Found(0, List.of(), List.of());

    private final int step;
    private final int wide;
    private final int along;
    private final boolean everySequence;
    private final List<int[]> faults = new ArrayList<>();
    private final List<Sort> sorts = new ArrayList<>();
    private final TreeSet<Integer> gang = new TreeSet<>();
    private int margin = 0;
    private int bow = 16777216;
    private int way = 0;
    private int stages = 2;
    private List<Piece> plan = null;
    private long bound = 0;
    private final Map<String, Found> known = new HashMap<>();

    /** With everySequence each sequence of segments is tried; without, only the best rest behind each segment. */
    Model(int width, int length, int step, boolean everySequence) {
        this.step = nearest(step);
        this.wide = Math.min(10, nearest(width) / this.step);
        this.along = Math.min(24, nearest(length) / this.step);
        this.everySequence = everySequence;
    }

    private static int nearest(int v) {
        return v < 1 ? 1 : v > 65536 ? 65536 : v;
    }

    private int holding(int parts) {
        int steps = 0;
        while ((long) steps * step < parts) {
            steps++;
        }
        return steps;
    }

    private static void index(boolean good) {
        if (!good) {
            throw new IndexOutOfBoundsException();
        }
    }

    private static void state(boolean good) {
        if (!good) {
            throw new IllegalStateException();
        }
    }

    private static void argument(boolean good) {
        if (!good) {
            throw new IllegalArgumentException();
        }
    }

    private static boolean in(long v, long low, long high) {
        return v >= low && v <= high;
    }

    boolean fault(int face, int kind, int x, int y, int w, int h) {
        index(in(face, 0, 1));
        state(faults.size() < 20);
        argument(in(kind, 0, 7) && in(x, -65536, 65536) && in(y, -65536, 65536) && in(w, 0, 65536) && in(h, 0, 65536));
        if (w == 0 || h == 0) {
            return false;
        }
        faults.add(new int[] {face, kind, x, y, w, h});
        plan = null;
        return true;
    }

    int piece(int width2, int low, int high, long worth) {
        state(sorts.size() < 8);
        argument(in(width2, 1, 65536) && in(low, 1, 65536) && in(high, 1, 65536) && low <= high && in(worth, 1, 100000));
        Sort sort = new Sort();
        sort.wide = holding(width2);
        sort.low = low;
        sort.high = high;
        sort.worth = worth;
        sorts.add(sort);
        plan = null;
        return sorts.size() - 1;
    }

    boolean allows(int piece, int face, int kind) {
        index(in(piece, 0, sorts.size() - 1) && in(face, 0, 1));
        argument(in(kind, 0, 7));
        if (sorts.get(piece).allowed[face][kind]) {
            return false;
        }
        sorts.get(piece).allowed[face][kind] = true;
        plan = null;
        return true;
    }

    boolean gang(int width2) {
        argument(in(width2, 1, 65536));
        if (!gang.add(holding(width2))) {
            return false;
        }
        plan = null;
        return true;
    }

    boolean need(int piece, int n) {
        index(in(piece, 0, sorts.size() - 1));
        argument(in(n, 0, 1000));
        if (sorts.get(piece).need == n) {
            return false;
        }
        sorts.get(piece).need = n;
        plan = null;
        return true;
    }

    boolean margin(int v) {
        argument(in(v, 0, 65536));
        if (v == margin) {
            return false;
        }
        margin = v;
        plan = null;
        return true;
    }

    boolean bow(int most) {
        argument(in(most, 1, 16777216));
        if (most == bow) {
            return false;
        }
        bow = most;
        plan = null;
        return true;
    }

    int run(int way, int stages) {
        argument(in(way, 0, 1) && in(stages, 1, 3));
        this.way = way;
        this.stages = stages;
        for (Sort sort : sorts) {
            sort.price = 0;
        }
        plan = bestOfBoard().pieces;
        bound = trueWorth(plan);
        return plan.size();
    }

    int prices(int rounds) {
        argument(in(rounds, 1, 6));
        for (Sort sort : sorts) {
            sort.price = 0;
        }
        List<Piece> kept = null;
        List<Piece> last = null;
        bound = Long.MAX_VALUE;
        int r = 0;
        while (r < rounds) {
            r++;
            Found found = bestOfBoard();
            last = found.pieces;
            long value = found.worth;
            boolean good = true;
            boolean just = true;
            for (int i = 0; i < sorts.size(); i++) {
                Sort sort = sorts.get(i);
                if (sort.need >= 0) {
                    value += sort.price * sort.need;
                    good &= count(last, i) <= sort.need;
                    just &= sort.price == 0 || count(last, i) == sort.need;
                }
            }
            bound = Math.min(bound, value);
            if (good && (kept == null || trueWorth(last) > trueWorth(kept))) {
                kept = last;
            }
            if (good && just || r == rounds) {
                break;
            }
            for (int i = 0; i < sorts.size(); i++) {
                Sort sort = sorts.get(i);
                if (sort.need >= 0) {
                    sort.price += (long) (count(last, i) - sort.need) * Math.max(1, 256 / r);
                    sort.price = sort.price < 0 ? 0 : sort.price;
                }
            }
        }
        plan = kept != null ? kept : withoutTooMany(last);
        return r;
    }

    private List<Piece> withoutTooMany(List<Piece> all) {
        List<Piece> left = new ArrayList<>(all);
        for (int k = all.size() - 1; k >= 0; k--) {
            int sort = all.get(k).sort;
            if (sorts.get(sort).need >= 0 && count(left, sort) > sorts.get(sort).need) {
                left.remove(k);
            }
        }
        return left;
    }

    private static int count(List<Piece> pieces, int sort) {
        int n = 0;
        for (Piece piece : pieces) {
            n += piece.sort == sort ? 1 : 0;
        }
        return n;
    }

    private long trueWorth(List<Piece> pieces) {
        long sum = 0;
        for (Piece piece : pieces) {
            sum += sorts.get(piece.sort).worth * piece.along;
        }
        return sum;
    }

    private Found bestOfBoard() {
        known.clear();
        if (wide == 0 || along == 0) {
            return NOTHING;
        }
        return best(stages, way, new int[] {0, along, 0, wide});
    }

    /** A box is x0, x1, y0, y1 in steps. */
    private Found best(int level, int axis, int[] box) {
        if (level == 0) {
            return bestPiece(box);
        }
        String key = level + " " + axis + " " + box[0] + " " + box[1] + " " + box[2] + " " + box[3];
        Found found = known.get(key);
        if (found == null) {
            found = everySequence ? bestSequence(level, axis, box, NOTHING) : bestRest(level, axis, box);
            known.put(key, found);
        }
        return found;
    }

    private static int[] part(int axis, int[] box, int begin, int end) {
        return axis == 0 ? new int[] {box[0], box[1], begin, end} : new int[] {begin, end, box[2], box[3]};
    }

    private Found segment(int level, int axis, int[] box, int begin, int end) {
        if (level == stages && axis == 0 && !gang.isEmpty() && !gang.contains(end - begin)) {
            return null;
        }
        Found found = best(level - 1, 1 - axis, part(axis, box, begin, end));
        return found == null || found.pieces.isEmpty() ? null : found;
    }

    /** Every way to go on from the end of what is begun. */
    private Found bestSequence(int level, int axis, int[] box, Found begun) {
        int begin = axis == 0 ? box[2] : box[0];
        int end = axis == 0 ? box[3] : box[1];
        int at = begin;
        for (int steps : begun.segments) {
            at += Math.max(1, steps);
        }
        if (at == end) {
            return begun;
        }
        Found best = bestSequence(level, axis, box, behind(begun, NOTHING, 0));
        for (int cut = at + 1; cut <= end; cut++) {
            Found segment = segment(level, axis, box, at, cut);
            if (segment != null) {
                Found whole = bestSequence(level, axis, box, behind(begun, segment, cut - at));
                best = whole.betterThan(best) ? whole : best;
            }
        }
        return best;
    }

    private static Found behind(Found begun, Found segment, int steps) {
        List<Piece> all = new ArrayList<>(begun.pieces);
        all.addAll(segment.pieces);
        List<Integer> cuts = new ArrayList<>(begun.segments);
        cuts.add(steps);
        return new Found(begun.worth + segment.worth, all, cuts);
    }

    private Found bestRest(int level, int axis, int[] box) {
        int begin = axis == 0 ? box[2] : box[0];
        int end = axis == 0 ? box[3] : box[1];
        Found[] rest = new Found[end + 1];
        rest[end] = NOTHING;
        for (int at = end - 1; at >= begin; at--) {
            rest[at] = NOTHING.then(rest[at + 1], 0);
            for (int cut = at + 1; cut <= end; cut++) {
                Found segment = segment(level, axis, box, at, cut);
                if (segment != null) {
                    Found whole = segment.then(rest[cut], cut - at);
                    rest[at] = whole.betterThan(rest[at]) ? whole : rest[at];
                }
            }
        }
        return rest[begin];
    }

    private Found bestPiece(int[] box) {
        Found best = null;
        int steps = box[1] - box[0];
        for (int i = 0; i < sorts.size(); i++) {
            if (mayBe(sorts.get(i), box)) {
                long worth = sorts.get(i).worth * steps - sorts.get(i).price;
                if (best == null || worth > best.worth) {
                    best = new Found(worth, List.of(new Piece(box[0], box[2], steps, box[3] - box[2], i)), List.of());
                }
            }
        }
        return best;
    }

    private boolean mayBe(Sort sort, int[] box) {
        long length = (long) (box[1] - box[0]) * step;
        if (sort.wide != box[3] - box[2] || length < sort.low || length > sort.high || length > bow) {
            return false;
        }
        for (int[] fault : faults) {
            if (!sort.allowed[fault[0]][fault[1]] && overlaps(fault, box)) {
                return false;
            }
        }
        return true;
    }

    private boolean overlaps(int[] fault, int[] box) {
        long left = fault[2] - margin;
        long right = fault[2] + fault[4] + margin;
        long low = fault[3] - margin;
        long high = fault[3] + fault[5] + margin;
        return left < (long) box[1] * step && right > (long) box[0] * step
                && low < (long) box[3] * step && high > (long) box[2] * step;
    }

    long worth() {
        state(plan != null);
        return trueWorth(plan);
    }

    int at(int k, int what) {
        state(plan != null);
        index(in(k, -1, plan.size() - 1));
        argument(in(what, 0, 5));
        if (k == -1) {
            return plan.size();
        }
        Piece p = plan.get(k);
        return new int[] {p.x, p.y, p.along, p.wide, p.sort, (int) sorts.get(p.sort).worth * p.along}[what];
    }

    boolean clear2(int k) {
        state(plan != null);
        index(in(k, 0, plan.size() - 1));
        Piece p = plan.get(k);
        for (int[] fault : faults) {
            if (overlaps(fault, new int[] {p.x, p.x + p.along, p.y, p.y + p.wide})) {
                return false;
            }
        }
        return true;
    }

    long bound() {
        state(plan != null);
        return bound;
    }

    long price(int piece, int part) {
        state(plan != null);
        index(in(piece, 0, sorts.size() - 1) && in(part, 0, 2));
        Sort sort = sorts.get(piece);
        return part == 0 ? sort.price : part == 1 ? count(plan, piece) : sort.need;
    }

    int salvage(int k, int what) {
        state(plan != null);
        List<int[]> rows = new ArrayList<>();
        for (int y = 0; y < wide; y++) {
            for (int x = 0; x < along; x++) {
                if (isFree(x, y) && (x == 0 || !isFree(x - 1, y))) {
                    int n = 1;
                    while (x + n < along && isFree(x + n, y)) {
                        n++;
                    }
                    rows.add(new int[] {x, y, n});
                }
            }
        }
        index(in(k, -1, rows.size() - 1));
        argument(in(what, 0, 2));
        return k == -1 ? rows.size() : rows.get(k)[what];
    }

    private boolean isFree(int x, int y) {
        for (Piece p : plan) {
            if (x >= p.x && x < p.x + p.along && y >= p.y && y < p.y + p.wide) {
                return false;
            }
        }
        return true;
    }

    int panel(int width3, int k) {
        state(plan != null);
        argument(in(width3, 1, 100) && k >= 0);
        Map<String, Boolean> reached = new HashMap<>();
        for (int n = 1; n <= plan.size() && n <= width3; n++) {
            if (reaches(0, width3, n, reached)) {
                return k < n ? member(width3, n, k, reached) : -1;
            }
        }
        return -1;
    }

    private boolean reaches(int from, int width, int n, Map<String, Boolean> reached) {
        if (n == 0 || width <= 0 || from >= plan.size()) {
            return n == 0 && width == 0;
        }
        String key = from + " " + width + " " + n;
        Boolean found = reached.get(key);
        if (found == null) {
            found = reaches(from + 1, width - plan.get(from).wide, n - 1, reached)
                    || reaches(from + 1, width, n, reached);
            reached.put(key, found);
        }
        return found;
    }

    private int member(int width, int n, int k, Map<String, Boolean> reached) {
        int from = 0;
        for (int taken = 0;; from++) {
            if (reaches(from + 1, width - plan.get(from).wide, n - taken - 1, reached)) {
                if (taken == k) {
                    return from;
                }
                width -= plan.get(from).wide;
                taken++;
            }
        }
    }

    boolean greatest() {
        state(plan != null);
        return trueWorth(plan) == bound;
    }
}
