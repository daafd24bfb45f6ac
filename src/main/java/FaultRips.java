import java.util.Arrays;

/** Cuts a board with faults to pieces that are clear enough; ../shared/DOC.md says what each call promises. */
public final class FaultRips {
    public static final int NONE = -1;

    private static final int MOST_PARTS = 65536;
    private static final int MOST_LONG = 24;
    private static final int MOST_WIDE = 10;
    private static final int MOST_FAULTS = 20;
    private static final int MOST_SORTS = 8;
    private static final int FACES = 2;
    private static final int KINDS = 8;
    private static final int MOST_BOW = 16777216;
    private static final int MOST_WORTH = 100000;
    private static final int MOST_NEED = 1000;
    private static final int MOST_STAGES = 3;
    private static final int MOST_ROUNDS = 6;
    private static final int MOST_PANEL = 100;
    private static final int PRICE_STRIDE = 256;

    /** An axis is named by the way that cuts along it: y is RIPPED, x is CROSSCUT. */
    private static final int RIPPED = 0;
    private static final int CROSSCUT = 1;

    /** What at() can be asked of a piece, and salvage() of a row. */
    private static final int PIECE_FACTS = 6;
    private static final int ROW_FACTS = 3;
    private static final int FACT_X = 0;
    private static final int FACT_Y = 1;
    private static final int FACT_ALONG = 2;
    private static final int FACT_WIDE = 3;
    private static final int FACT_SORT = 4;
    private static final int FACT_WORTH = 5;

    private static final int PRICE_PARTS = 3;

    private final Board board;
    private final Sorts sorts;
    private final Gang saws;
    private final Cutter cutter;
    private final Plan plan;
    private final Plan trial;
    private final Leftover leftover;
    private final PanelMaker panels;
    private int latestWay = RIPPED;
    private int latestStages = 2;
    private boolean planned = false;
    private long boundNow = 0;

    public FaultRips(int width, int length, int step) {
        board = new Board(nearestPart(width), nearestPart(length), nearestPart(step));
        sorts = new Sorts(board);
        saws = new Gang();
        cutter = new Cutter(board, sorts);
        plan = new Plan(board.cells());
        trial = new Plan(board.cells());
        leftover = new Leftover(board);
        panels = new PanelMaker(board.cells());
    }

    public boolean fault(int face, int kind, int x, int y, int w, int h)
            throws IndexOutOfBoundsException, IllegalStateException, IllegalArgumentException {
        checkIndex(face, FACES);
        if (board.faultCount >= MOST_FAULTS) {
            throw new IllegalStateException("there are 20 faults");
        }
        checkRange(kind, 0, KINDS - 1);
        checkRange(x, -MOST_PARTS, MOST_PARTS);
        checkRange(y, -MOST_PARTS, MOST_PARTS);
        checkRange(w, 0, MOST_PARTS);
        checkRange(h, 0, MOST_PARTS);
        if (w == 0 || h == 0) {
            return false;
        }
        board.addFault(new Fault(face, kind, x, y, w, h));
        planned = false;
        return true;
    }

    public int piece(int width2, int lengthLow, int lengthHigh, long worth)
            throws IllegalStateException, IllegalArgumentException {
        if (sorts.count >= MOST_SORTS) {
            throw new IllegalStateException("there are 8 pieces");
        }
        checkRange(width2, 1, MOST_PARTS);
        checkRange(lengthLow, 1, MOST_PARTS);
        checkRange(lengthHigh, lengthLow, MOST_PARTS);
        checkRange(worth, 1, MOST_WORTH);
        planned = false;
        return sorts.addSort(new Sort(board.stepsHolding(width2), lengthLow, lengthHigh, (int) worth));
    }

    public boolean allows(int piece, int face, int kind)
            throws IndexOutOfBoundsException, IllegalArgumentException {
        checkIndex(piece, sorts.count);
        checkIndex(face, FACES);
        checkRange(kind, 0, KINDS - 1);
        Sort sort = sorts.told[piece];
        if (sort.allowsKind(face, kind)) {
            return false;
        }
        sort.allowKind(face, kind);
        planned = false;
        return true;
    }

    public boolean gang(int width2) throws IllegalArgumentException {
        checkRange(width2, 1, MOST_PARTS);
        int steps = board.stepsHolding(width2);
        if (saws.holds(steps)) {
            return false;
        }
        saws.addWidth(steps);
        planned = false;
        return true;
    }

    public boolean need(int piece, int n) throws IndexOutOfBoundsException, IllegalArgumentException {
        checkIndex(piece, sorts.count);
        checkRange(n, 0, MOST_NEED);
        Sort sort = sorts.told[piece];
        if (sort.need == n) {
            return false;
        }
        sort.need = n;
        planned = false;
        return true;
    }

    public boolean margin(int v) throws IllegalArgumentException {
        checkRange(v, 0, MOST_PARTS);
        if (board.margin == v) {
            return false;
        }
        board.margin = v;
        planned = false;
        return true;
    }

    public boolean bow(int most) throws IllegalArgumentException {
        checkRange(most, 1, MOST_BOW);
        if (sorts.bow == most) {
            return false;
        }
        sorts.bow = most;
        planned = false;
        return true;
    }

    public int run(int way, int stages) throws IllegalArgumentException {
        checkRange(way, RIPPED, CROSSCUT);
        checkRange(stages, 1, MOST_STAGES);
        latestWay = way;
        latestStages = stages;
        makeReady();
        cutter.cutBoard(way, stages, saws, plan);
        boundNow = plan.total;
        planned = true;
        return plan.size;
    }

    public int prices(int rounds) throws IllegalArgumentException {
        checkRange(rounds, 1, MOST_ROUNDS);
        makeReady();
        boolean found = false;
        boolean settled = false;
        int round = 0;
        while (round < rounds && !settled) {
            if (round > 0) {
                sorts.movePrices(trial, Math.max(1, PRICE_STRIDE / round));
            }
            cutter.cutBoard(latestWay, latestStages, saws, trial);
            long value = sorts.valueOf(trial);
            boundNow = round == 0 ? value : Math.min(boundNow, value);
            if (!sorts.tooMany(trial) && (!found || trial.total > plan.total)) {
                plan.copyFrom(trial);
                found = true;
            }
            settled = sorts.isSettled(trial);
            round++;
        }
        if (!found) {
            plan.copyFrom(trial);
            plan.takeOffTooMany(sorts);
        }
        planned = true;
        return round;
    }

    public long worth() throws IllegalStateException {
        checkPlanned();
        return plan.total;
    }

    public int at(int k, int what)
            throws IllegalStateException, IndexOutOfBoundsException, IllegalArgumentException {
        checkPlanned();
        checkIndexOrNone(k, plan.size);
        checkRange(what, 0, PIECE_FACTS - 1);
        return k == NONE ? plan.size : plan.facts[what][k];
    }

    public boolean clear2(int k) throws IllegalStateException, IndexOutOfBoundsException {
        checkPlanned();
        checkIndex(k, plan.size);
        int x = plan.facts[FACT_X][k];
        int y = plan.facts[FACT_Y][k];
        int across = spanOf(x, x + plan.facts[FACT_ALONG][k]);
        int upward = spanOf(y, y + plan.facts[FACT_WIDE][k]);
        return board.faultsIn(across, upward) == 0;
    }

    public long bound() throws IllegalStateException {
        checkPlanned();
        return boundNow;
    }

    public long price(int piece, int part) throws IllegalStateException, IndexOutOfBoundsException {
        checkPlanned();
        checkIndex(piece, sorts.count);
        checkIndex(part, PRICE_PARTS);
        if (part == 0) {
            return sorts.told[piece].price;
        }
        return part == 1 ? plan.counts[piece] : sorts.told[piece].need;
    }

    public int salvage(int k, int what)
            throws IllegalStateException, IndexOutOfBoundsException, IllegalArgumentException {
        checkPlanned();
        leftover.gather(plan);
        checkIndexOrNone(k, leftover.size);
        checkRange(what, 0, ROW_FACTS - 1);
        return k == NONE ? leftover.size : leftover.facts[what][k];
    }

    public int panel(int width3, int k) throws IllegalStateException, IllegalArgumentException {
        checkPlanned();
        checkRange(width3, 1, MOST_PANEL);
        checkRange(k, 0, Integer.MAX_VALUE);
        return panels.pick(plan, width3, k);
    }

    public boolean greatest() throws IllegalStateException {
        checkPlanned();
        return plan.total == boundNow;
    }

    private void makeReady() {
        board.findMeetings();
        sorts.makeReady();
    }

    private void checkPlanned() {
        if (!planned) {
            throw new IllegalStateException("no plan was made since something was told");
        }
    }

    private static void checkIndex(int index, int count) {
        if (index < 0 || index >= count) {
            throw new IndexOutOfBoundsException("there is no such piece, face, part");
        }
    }

    private static void checkIndexOrNone(int index, int count) {
        if (index != NONE) {
            checkIndex(index, count);
        }
    }

    private static void checkRange(long number, long low, long high) {
        if (number < low || number > high) {
            throw new IllegalArgumentException("a number is not as said");
        }
    }

    private static int nearestPart(int number) {
        return Math.max(1, Math.min(MOST_PARTS, number));
    }

    /** The number of the span of steps begin .. end - 1 among all spans, those with a lesser end first. */
    private static int spanOf(int begin, int end) {
        return end * (end - 1) / 2 + begin;
    }

    private static int spansOf(int steps) {
        return steps * (steps + 1) / 2;
    }

    private static final class Fault {
        final int face;
        final int kind;
        private final int x;
        private final int y;
        private final int w;
        private final int h;

        Fault(int face, int kind, int x, int y, int w, int h) {
            this.face = face;
            this.kind = kind;
            this.x = x;
            this.y = y;
            this.w = w;
            this.h = h;
        }

        boolean meets(int axis, int low, int high, int margin) {
            int from = axis == RIPPED ? y : x;
            int size = axis == RIPPED ? h : w;
            return from - margin < high && from + size + margin > low;
        }
    }

    private static final class Board {
        final int step;
        final int wide;
        final int along;
        final Fault[] faults = new Fault[MOST_FAULTS];
        int faultCount = 0;
        int margin = 0;
        /** The faults, a bit each, that meet a span of steps along an axis. */
        private final int[] metAlongX;
        private final int[] metAlongY;

        Board(int width, int length, int step) {
            this.step = Math.max(1, step);
            wide = Math.min(MOST_WIDE, width / this.step);
            along = Math.min(MOST_LONG, length / this.step);
            metAlongX = new int[spansOf(along)];
            metAlongY = new int[spansOf(wide)];
        }

        int cells() {
            return wide * along;
        }

        int stepsOf(int axis) {
            return axis == RIPPED ? wide : along;
        }

        int stepsHolding(int parts) {
            return (parts + step - 1) / step;
        }

        void addFault(Fault fault) {
            if (faultCount < MOST_FAULTS) {
                faults[faultCount] = fault;
                faultCount++;
            }
        }

        void findMeetings() {
            findAlong(CROSSCUT, metAlongX);
            findAlong(RIPPED, metAlongY);
        }

        private void findAlong(int axis, int[] met) {
            int steps = stepsOf(axis);
            for (int end = 1; end <= steps; end++) {
                for (int begin = 0; begin < end; begin++) {
                    met[spanOf(begin, end)] = meeting(axis, begin * step, end * step);
                }
            }
        }

        private int meeting(int axis, int low, int high) {
            int met = 0;
            for (int i = 0; i < faultCount; i++) {
                if (faults[i].meets(axis, low, high, margin)) {
                    met |= 1 << i;
                }
            }
            return met;
        }

        /** A box meets another just where their spans meet along both axes. */
        int faultsIn(int across, int upward) {
            return metAlongX[across] & metAlongY[upward];
        }
    }

    /** A piece as it was told; what a plan has are its pieces. */
    private static final class Sort {
        final int wide;
        final int perStep;
        int need = NONE;
        long price = 0;
        int leastSteps = 1;
        int mostSteps = 0;
        int barred = 0;
        private final int low;
        private final int high;
        private int allowed = 0;

        Sort(int wide, int low, int high, int perStep) {
            this.wide = wide;
            this.low = low;
            this.high = high;
            this.perStep = perStep;
        }

        boolean allowsKind(int face, int kind) {
            return (allowed >> (face * KINDS + kind) & 1) == 1;
        }

        void allowKind(int face, int kind) {
            allowed |= 1 << (face * KINDS + kind);
        }

        void makeReady(Board board, int bow) {
            price = 0;
            leastSteps = board.stepsHolding(low);
            mostSteps = Math.min(board.along, Math.min(high, bow) / board.step);
            barred = 0;
            for (int i = 0; i < board.faultCount; i++) {
                if (!allowsKind(board.faults[i].face, board.faults[i].kind)) {
                    barred |= 1 << i;
                }
            }
        }

        boolean hasLength(int steps) {
            return steps >= leastSteps && steps <= mostSteps;
        }

        int worthOf(int steps) {
            return perStep * steps;
        }
    }

    private static final class Sorts {
        final Sort[] told = new Sort[MOST_SORTS];
        int count = 0;
        int bow = MOST_BOW;
        private final Board board;

        Sorts(Board board) {
            this.board = board;
        }

        int addSort(Sort sort) {
            if (count >= MOST_SORTS) {
                return NONE;
            }
            told[count] = sort;
            count++;
            return count - 1;
        }

        void makeReady() {
            for (int i = 0; i < count; i++) {
                told[i].makeReady(board, bow);
            }
        }

        boolean isTooMany(int i, int number) {
            return told[i].need != NONE && number > told[i].need;
        }

        boolean tooMany(Plan plan) {
            for (int i = 0; i < count; i++) {
                if (isTooMany(i, plan.counts[i])) {
                    return true;
                }
            }
            return false;
        }

        boolean isSettled(Plan plan) {
            for (int i = 0; i < count; i++) {
                boolean lacking = told[i].price > 0 && plan.counts[i] != told[i].need;
                if (lacking || isTooMany(i, plan.counts[i])) {
                    return false;
                }
            }
            return true;
        }

        /** The plan's priced worth and each price times its NEED: by piece, the price counts (NEED - number) times. */
        long valueOf(Plan plan) {
            long value = plan.total;
            for (int i = 0; i < count; i++) {
                if (told[i].need != NONE) {
                    value += told[i].price * (told[i].need - plan.counts[i]);
                }
            }
            return value;
        }

        void movePrices(Plan plan, int stride) {
            for (int i = 0; i < count; i++) {
                Sort sort = told[i];
                if (sort.need != NONE) {
                    sort.price = Math.max(0L, sort.price + (long) (plan.counts[i] - sort.need) * stride);
                }
            }
        }
    }

    /** A bit for each width in steps: widths beyond the board still count as told. */
    private static final class Gang {
        private static final int BITS = 64;
        private final long[] widths = new long[MOST_PARTS / BITS + 1];
        private boolean told = false;

        boolean holds(int steps) {
            int word = steps / BITS;
            return steps >= 0 && word < widths.length && (widths[word] >> (steps % BITS) & 1L) == 1L;
        }

        void addWidth(int steps) {
            int word = steps / BITS;
            if (steps >= 0 && word < widths.length) {
                widths[word] |= 1L << (steps % BITS);
                told = true;
            }
        }

        boolean mayRip(int steps) {
            return !told || holds(steps);
        }
    }

    private static final class Plan {
        /** By what is asked, then by piece. */
        final int[][] facts;
        final int[] counts = new int[MOST_SORTS];
        int size = 0;
        long total = 0;
        private final int room;

        Plan(int room) {
            this.room = room;
            facts = new int[PIECE_FACTS][room];
        }

        void empty() {
            size = 0;
            total = 0;
            Arrays.fill(counts, 0);
        }

        void addPiece(int x, int y, int along, int wide, int sort, int value) {
            if (size >= room || sort < 0 || sort >= MOST_SORTS) {
                return;
            }
            facts[FACT_X][size] = x;
            facts[FACT_Y][size] = y;
            facts[FACT_ALONG][size] = along;
            facts[FACT_WIDE][size] = wide;
            facts[FACT_SORT][size] = sort;
            facts[FACT_WORTH][size] = value;
            counts[sort]++;
            size++;
            total += value;
        }

        void copyFrom(Plan other) {
            empty();
            for (int k = 0; k < other.size; k++) {
                addPieceOf(other, k);
            }
        }

        /** Adding the plan's own pieces anew is safe: none goes behind the place it came from. */
        void takeOffTooMany(Sorts sorts) {
            int before = size;
            empty();
            for (int k = 0; k < before; k++) {
                int sort = facts[FACT_SORT][k];
                if (!sorts.isTooMany(sort, counts[sort] + 1)) {
                    addPieceOf(this, k);
                }
            }
        }

        private void addPieceOf(Plan other, int k) {
            int[][] from = other.facts;
            addPiece(from[FACT_X][k], from[FACT_Y][k], from[FACT_ALONG][k], from[FACT_WIDE][k],
                    from[FACT_SORT][k], from[FACT_WORTH][k]);
        }
    }

    /**
     * Finds BEST plans by a table for each level, level 0 being single pieces and the highest one the board.
     * An entry is worth * SCALE - number of pieces, so that the greater entry is the better plan and entries add up.
     * WASTE is 0. A plan with pieces and an entry of 0 or less is never taken: WASTE in its place is better.
     */
    private static final class Cutter {
        /** Above the number of pieces that any plan has. */
        private static final long SCALE = 1024;

        private final Board board;
        private final Sorts sorts;
        private final int spansAlong;
        /** A level's table is made when a plan first has so many stages. */
        private final long[][] tables = new long[MOST_STAGES + 1][0];
        private final long[] rest = new long[MOST_LONG + 1];
        private int topAxis = RIPPED;
        private int top = 0;
        /** Bit n: the board's segments of its first stage may be n steps. */
        private int topSteps = 0;

        Cutter(Board board, Sorts sorts) {
            this.board = board;
            this.sorts = sorts;
            spansAlong = spansOf(board.along);
        }

        void cutBoard(int way, int stages, Gang saws, Plan into) {
            into.empty();
            if (board.cells() == 0 || stages < 1 || stages > MOST_STAGES) {
                return;
            }
            topAxis = way;
            top = stages;
            topSteps = stepsFor(way, saws);
            makeTables();
            layAllSorts();
            for (int level = 1; level <= top; level++) {
                fillLevel(level);
            }
            layPlan(into, top, 0, board.along, 0, board.wide);
        }

        private static int stepsFor(int way, Gang saws) {
            int bits = 0;
            int most = way == RIPPED ? MOST_WIDE : MOST_LONG;
            for (int steps = 1; steps <= most; steps++) {
                if (way != RIPPED || saws.mayRip(steps)) {
                    bits |= 1 << steps;
                }
            }
            return bits;
        }

        private void makeTables() {
            int entries = spansOf(board.wide) * spansAlong;
            for (int level = 0; level <= top; level++) {
                if (tables[level].length != entries) {
                    tables[level] = new long[entries];
                }
            }
        }

        private void layAllSorts() {
            Arrays.fill(tables[0], 0L);
            for (int i = 0; i < sorts.count; i++) {
                Sort sort = sorts.told[i];
                for (int y = 0; y + sort.wide <= board.wide; y++) {
                    laySort(sort, spanOf(y, y + sort.wide));
                }
            }
        }

        private void laySort(Sort sort, int upward) {
            long[] table = tables[0];
            for (int steps = sort.leastSteps; steps <= sort.mostSteps; steps++) {
                long entry = entryOf(sort, steps);
                for (int x = 0; x + steps <= board.along; x++) {
                    int across = spanOf(x, x + steps);
                    int place = upward * spansAlong + across;
                    if (entry > table[place] && isClearFor(sort, across, upward)) {
                        table[place] = entry;
                    }
                }
            }
        }

        private static long entryOf(Sort sort, int steps) {
            return (sort.worthOf(steps) - sort.price) * SCALE - 1;
        }

        private boolean isClearFor(Sort sort, int across, int upward) {
            return (board.faultsIn(across, upward) & sort.barred) == 0;
        }

        private int axisOf(int level) {
            return (top - level) % 2 == 0 ? topAxis : 1 - topAxis;
        }

        /** A table holds a row of spans along x for each span along y. */
        private int strideOf(int axis) {
            return axis == RIPPED ? spansAlong : 1;
        }

        private int placeOf(int axis, int span, int other) {
            return span * strideOf(axis) + other * strideOf(1 - axis);
        }

        private boolean mayCut(int level, int steps) {
            return level < top || (topSteps >> steps & 1) == 1;
        }

        /** The highest level is asked for the whole board alone, the next one for whole segments of it. */
        private void fillLevel(int level) {
            int axis = axisOf(level);
            int steps = board.stepsOf(axis);
            int otherSteps = board.stepsOf(1 - axis);
            int firstOther = level == top ? spanOf(0, otherSteps) : 0;
            int lastOther = spanOf(level == top ? 0 : otherSteps - 1, otherSteps);
            int firstEnd = level >= top - 1 ? steps : 1;
            for (int other = firstOther; other <= lastOther; other++) {
                for (int end = firstEnd; end <= steps; end++) {
                    fillTo(level, axis, other, end);
                }
            }
        }

        private void fillTo(int level, int axis, int other, int end) {
            long[] under = tables[level - 1];
            long[] table = tables[level];
            int stride = strideOf(axis);
            rest[end] = 0;
            for (int begin = end - 1; begin >= 0; begin--) {
                long best = rest[begin + 1];
                int place = placeOf(axis, spanOf(begin, begin + 1), other);
                for (int cut = begin + 1; cut <= end; cut++) {
                    long segment = under[place];
                    if (segment > 0 && segment + rest[cut] > best && mayCut(level, cut - begin)) {
                        best = segment + rest[cut];
                    }
                    // A span that ends a step later has a number that is greater by its old end.
                    place += cut * stride;
                }
                rest[begin] = best;
                table[placeOf(axis, spanOf(begin, end), other)] = best;
            }
        }

        private void layPlan(Plan into, int level, int x0, int x1, int y0, int y1) {
            if (level <= 0) {
                layPiece(into, x0, x1, y0, y1);
                return;
            }
            int axis = axisOf(level);
            boolean ripped = axis == RIPPED;
            int other = ripped ? spanOf(x0, x1) : spanOf(y0, y1);
            int end = ripped ? y1 : x1;
            int begin = ripped ? y0 : x0;
            while (begin < end) {
                int cut = segmentEnd(level, other, begin, end);
                if (cut > begin) {
                    layPlan(into, level - 1, ripped ? x0 : begin, ripped ? x1 : cut,
                            ripped ? begin : y0, ripped ? cut : y1);
                }
                // Behind NONE this is the single step of WASTE; either way the loop goes on, so that it ends.
                begin = Math.max(begin + 1, cut);
            }
        }

        /** Where the longest segment ends that the BEST plan can go on with, or NONE for WASTE. */
        private int segmentEnd(int level, int other, int begin, int end) {
            int axis = axisOf(level);
            long[] under = tables[level - 1];
            long[] table = tables[level];
            long best = table[placeOf(axis, spanOf(begin, end), other)];
            for (int cut = end; cut > begin; cut--) {
                long segment = under[placeOf(axis, spanOf(begin, cut), other)];
                long after = cut == end ? 0 : table[placeOf(axis, spanOf(cut, end), other)];
                if (segment > 0 && segment + after == best && mayCut(level, cut - begin)) {
                    return cut;
                }
            }
            return NONE;
        }

        /** The first piece whose entry is that of the table: of equal ones that with the least number. */
        private void layPiece(Plan into, int x0, int x1, int y0, int y1) {
            int across = spanOf(x0, x1);
            int upward = spanOf(y0, y1);
            int steps = x1 - x0;
            long best = tables[0][upward * spansAlong + across];
            for (int i = 0; i < sorts.count; i++) {
                Sort sort = sorts.told[i];
                if (sort.wide == y1 - y0 && sort.hasLength(steps) && entryOf(sort, steps) == best
                        && isClearFor(sort, across, upward)) {
                    into.addPiece(x0, y0, steps, y1 - y0, i, sort.worthOf(steps));
                    return;
                }
            }
        }
    }

    /** The rows of steps that no piece covers. */
    private static final class Leftover {
        final int[][] facts;
        int size = 0;
        private final int wide;
        private final int along;
        private final boolean[] covered;

        Leftover(Board board) {
            wide = board.wide;
            along = board.along;
            covered = new boolean[board.cells()];
            facts = new int[ROW_FACTS][wide * ((along + 1) / 2)];
        }

        void gather(Plan plan) {
            for (int i = 0; i < covered.length; i++) {
                covered[i] = false;
            }
            for (int k = 0; k < plan.size; k++) {
                cover(plan, k);
            }
            size = 0;
            for (int y = 0; y < wide; y++) {
                gatherRow(y);
            }
        }

        private void cover(Plan plan, int k) {
            int x0 = plan.facts[FACT_X][k];
            int y0 = plan.facts[FACT_Y][k];
            int x1 = Math.min(along, x0 + plan.facts[FACT_ALONG][k]);
            int y1 = Math.min(wide, y0 + plan.facts[FACT_WIDE][k]);
            for (int y = y0; y < y1; y++) {
                for (int x = x0; x < x1; x++) {
                    covered[y * along + x] = true;
                }
            }
        }

        private void gatherRow(int y) {
            int begin = 0;
            for (int x = 0; x <= along; x++) {
                if (x == along || covered[y * along + x]) {
                    addRow(begin, y, x - begin);
                    begin = x + 1;
                }
            }
        }

        private void addRow(int x, int y, int steps) {
            if (steps > 0 && size < facts[0].length) {
                facts[FACT_X][size] = x;
                facts[FACT_Y][size] = y;
                facts[FACT_ALONG][size] = steps;
                size++;
            }
        }
    }

    private static final class PanelMaker {
        private static final int WIDTHS = MOST_PANEL + 1;
        /** More pieces than any panel has, so that it stands for no panel. */
        private static final int FAR = 1000;

        private final int room;
        /** By piece, then by width: the fewest of the pieces from that one on. Made for the first panel. */
        private int[] fewest = new int[0];

        PanelMaker(int room) {
            this.room = room;
        }

        int pick(Plan plan, int width, int k) {
            if (width < 0 || width >= WIDTHS || plan.size > room) {
                return NONE;
            }
            fillFewest(plan, width);
            int left = width;
            int taken = 0;
            for (int i = 0; i < plan.size && left > 0 && fewest[i * WIDTHS + left] < FAR; i++) {
                int wide = plan.facts[FACT_WIDE][i];
                if (wide <= left && fewest[(i + 1) * WIDTHS + left - wide] + 1 == fewest[i * WIDTHS + left]) {
                    if (taken == k) {
                        return i;
                    }
                    taken++;
                    left -= wide;
                }
            }
            return NONE;
        }

        private void fillFewest(Plan plan, int width) {
            if (fewest.length != (room + 1) * WIDTHS) {
                fewest = new int[(room + 1) * WIDTHS];
            }
            int last = plan.size * WIDTHS;
            fewest[last] = 0;
            for (int w = 1; w <= width; w++) {
                fewest[last + w] = FAR;
            }
            for (int i = plan.size - 1; i >= 0; i--) {
                fillFrom(i, plan.facts[FACT_WIDE][i], width);
            }
        }

        private void fillFrom(int i, int wide, int width) {
            int here = i * WIDTHS;
            int next = here + WIDTHS;
            for (int w = 0; w <= width; w++) {
                int without = fewest[next + w];
                int with = w >= wide ? fewest[next + w - wide] + 1 : FAR;
                fewest[here + w] = Math.min(without, with);
            }
        }
    }
}
