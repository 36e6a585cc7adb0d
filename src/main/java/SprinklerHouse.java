import java.util.Arrays;

/** A house with sprinklers: pipes and heads, what is held of their water, heaps of heads, and floors. */
public final class SprinklerHouse {
    public static final int UNKNOWN = -1, OUTSIDE = -2, STATE = -3, FULL = -4, NO = -5, NONE = -6;
    public static final long LOST = -1000000000000L;

    private static final int SUPPLY = -1;
    private static final int LOW = 0, HIGH = 1;
    private static final int MOST_SIZES = 6, MOST_PIPES = 24, MOST_HEAPS = 6, MOST_FREE = 5, MOST_STEPS = 8;
    /** An end for each PIPE, and one behind the SUPPLY. */
    private static final int MOST_ENDS = MOST_PIPES + 1;
    private static final int MOST_PRESSURE = 100000, MOST_SUPPLY_DRAG = 4000;
    private static final int MOST_DRAG = 400, MOST_PRICE = 1000, MOST_LENGTH = 10;
    private static final int MOST_FACTOR = 200, MOST_NEED = 30000;
    private static final int LEAST_SIDE = 2, MOST_SIDE = 16, MOST_REACH = 12, MOST_NEAR = 30;
    private static final int OPEN_CELL = 0, WALL = 1, NOTHING = 2;
    private static final long UNIT = 1024;
    /** Above every price, DRAG and spare flow there can be. */
    private static final int BEYOND = 2000000000;

    private final Net net;
    private final Widths widths;
    private final Chooser chooser;
    private final Plan plan;
    /** The HEADS of each HEAP, a bit for each PIPE. */
    private final int[] members;
    private int heaps;

    public SprinklerHouse() {
        Net pipesAndHeads = new Net();
        Widths rows = new Widths(pipesAndHeads);
        int[] headsOfHeaps = new int[MOST_HEAPS];
        net = pipesAndHeads;
        widths = rows;
        members = headsOfHeaps;
        chooser = new Chooser(pipesAndHeads, rows, headsOfHeaps);
        plan = new Plan();
    }

    public int supply(int pressure, int drag) {
        if (!isWithin(pressure, 1, MOST_PRESSURE) || !isWithin(drag, 0, MOST_SUPPLY_DRAG)) {
            return OUTSIDE;
        }
        net.pressure = pressure;
        net.drags[0] = drag;
        return 1;
    }

    public int size(int drag, int price) {
        if (!isWithin(drag, 1, MOST_DRAG) || !isWithin(price, 1, MOST_PRICE)) {
            return OUTSIDE;
        }
        if (net.sizes >= MOST_SIZES) {
            return FULL;
        }
        return net.addSize(drag, price);
    }

    public int pipe(int from, int length, int size) {
        if (!isEnd(from) || !isSize(size)) {
            return UNKNOWN;
        }
        if (!isWithin(length, 1, MOST_LENGTH)) {
            return OUTSIDE;
        }
        if (net.pipes >= MOST_PIPES) {
            return FULL;
        }
        if (net.steps[from + 1] >= MOST_STEPS) {
            return NO;
        }
        return net.addPipe(from, length, size);
    }

    public int head(int pipe, int factor, int need) {
        if (!isPipe(pipe)) {
            return UNKNOWN;
        }
        if (!isWithin(factor, 1, MOST_FACTOR) || !isWithin(need, 0, MOST_NEED)) {
            return OUTSIDE;
        }
        net.setHead(pipe, factor, need);
        return 1;
    }

    public int open(int pipe, boolean is) {
        if (!isHead(pipe)) {
            return UNKNOWN;
        }
        int was = bit(net.opened, pipe);
        net.opened = withBit(net.opened, pipe, is);
        return was;
    }

    public int shut(int pipe, boolean is) {
        if (!isPipe(pipe)) {
            return UNKNOWN;
        }
        int was = bit(net.closed, pipe);
        net.closed = withBit(net.closed, pipe, is);
        return was;
    }

    public int clog(int pipe, int hundredths) {
        if (!isHead(pipe)) {
            return UNKNOWN;
        }
        if (!isWithin(hundredths, 0, 100)) {
            return OUTSIDE;
        }
        int was = net.clogs[pipe];
        net.clogs[pipe] = hundredths;
        return was;
    }

    public int resize(int pipe, int size) {
        if (!isPipe(pipe) || !isSize(size)) {
            return UNKNOWN;
        }
        int was = net.sizeOf[pipe];
        net.setSize(pipe, size);
        return was;
    }

    public long conduct(int pipe, int side) {
        if (!isEnd(pipe)) {
            return UNKNOWN;
        }
        if (!isSide(side)) {
            return OUTSIDE;
        }
        widths.gather(side, net.drags, net.opened);
        return widths.conductOf(pipe + 1, side, net.drags);
    }

    public long pressure(int pipe, int side) {
        if (!isEnd(pipe)) {
            return UNKNOWN;
        }
        if (!isSide(side)) {
            return OUTSIDE;
        }
        widths.holdPressures(side, net.opened);
        return widths.p[pipe + 1];
    }

    public long flow(int pipe, int side) {
        if (!isHead(pipe)) {
            return UNKNOWN;
        }
        if (!isSide(side)) {
            return OUTSIDE;
        }
        if (bit(net.opened, pipe) == 0) {
            return 0;
        }
        widths.holdPressures(side, net.opened);
        return widths.flowOf(pipe, side);
    }

    public long total(int side) {
        if (!isSide(side)) {
            return OUTSIDE;
        }
        widths.holdPressures(side, net.opened);
        long sum = 0;
        for (int pipe = 0; pipe < net.pipes; pipe++) {
            if (bit(net.opened, pipe) == 1) {
                sum += widths.flowOf(pipe, side);
            }
        }
        return sum;
    }

    public int about(int pipe, int what) {
        if (!isPipe(pipe)) {
            return UNKNOWN;
        }
        switch (what) {
            case 0: return net.from[pipe];
            case 1: return net.lengths[pipe];
            case 2: return net.sizeOf[pipe];
            case 3: return bit(net.closed, pipe);
            case 4: return bit(net.heads, pipe);
            case 5: return net.factorNow(pipe);
            case 6: return net.needs[pipe];
            case 7: return bit(net.opened, pipe);
            case 8: return net.clogs[pipe];
            case 9: return bit(net.freed, pipe);
            case 10: return net.countFrom(pipe);
            default: return OUTSIDE;
        }
    }

    public int worst() {
        widths.holdPressures(LOW, net.opened);
        int first = NONE;
        long leastSpare = 0;
        for (int pipe = 0; pipe < net.pipes; pipe++) {
            if (bit(net.opened, pipe) == 1) {
                long spare = widths.spareOf(pipe);
                if (first == NONE || spare < leastSpare) {
                    first = pipe;
                    leastSpare = spare;
                }
            }
        }
        return first;
    }

    public int heap() {
        if (heaps >= MOST_HEAPS) {
            return FULL;
        }
        return heaps++;
    }

    public int put(int heap, int pipe, boolean in) {
        if (!isHeap(heap) || !isHead(pipe)) {
            return UNKNOWN;
        }
        members[heap] = withBit(members[heap], pipe, in);
        return Integer.bitCount(members[heap]);
    }

    public long least(int heap) {
        if (!isHeap(heap)) {
            return LOST + UNKNOWN;
        }
        return leastOfHeap(heap);
    }

    public int thinnest() {
        int first = NONE;
        long thinnestLeast = 0;
        for (int heap = 0; heap < heaps; heap++) {
            long itsLeast = leastOfHeap(heap);
            if (first == NONE || itsLeast < thinnestLeast) {
                first = heap;
                thinnestLeast = itsLeast;
            }
        }
        return first;
    }

    public int free(int pipe, boolean is) {
        if (!isPipe(pipe)) {
            return UNKNOWN;
        }
        int then = withBit(net.freed, pipe, is);
        if (Integer.bitCount(then) > MOST_FREE) {
            return FULL;
        }
        net.freed = then;
        return Integer.bitCount(then);
    }

    public long choose() {
        chooser.begin(heaps);
        Chooser.search(chooser, 0, 0);
        return chooser.settle() ? net.priceOfAll() : NO;
    }

    public long bill() {
        return net.priceOfAll();
    }

    public int margin(int heap) {
        if (!isHeap(heap)) {
            return UNKNOWN;
        }
        widths.gather(HIGH, net.drags, members[heap]);
        if (!isMetWithLess(heap, 0)) {
            return NO;
        }
        if (isMetWithLess(heap, 100)) {
            return NONE;
        }
        return leastTooMuch(heap);
    }

    public int floor(int rows, int columns) {
        if (!isWithin(rows, LEAST_SIDE, MOST_SIDE) || !isWithin(columns, LEAST_SIDE, MOST_SIDE)) {
            return OUTSIDE;
        }
        plan.lay(rows, columns);
        return rows * columns;
    }

    public int cell(int r, int c, int kind) {
        if (!plan.isCell(r, c)) {
            return UNKNOWN;
        }
        if (!isWithin(kind, OPEN_CELL, NOTHING)) {
            return OUTSIDE;
        }
        if (plan.whoStandsIn(r, c) != NONE) {
            return STATE;
        }
        int was = plan.kindOf(r, c);
        plan.kinds[r * MOST_SIDE + c] = kind;
        return was;
    }

    public int stand(int pipe, int r, int c, int reach) {
        if (!isHead(pipe) || !plan.isCell(r, c)) {
            return UNKNOWN;
        }
        if (!isWithin(reach, 1, MOST_REACH)) {
            return OUTSIDE;
        }
        int there = plan.whoStandsIn(r, c);
        if (plan.kindOf(r, c) != OPEN_CELL || there != NONE && there != pipe) {
            return NO;
        }
        plan.place(pipe, r, c, reach);
        return 1;
    }

    public int lift(int pipe) {
        if (!isHead(pipe)) {
            return UNKNOWN;
        }
        int was = bit(plan.standing, pipe);
        plan.standing = withBit(plan.standing, pipe, false);
        return was;
    }

    public int wets(int pipe, int r, int c) {
        if (!isHead(pipe) || !plan.isCell(r, c)) {
            return UNKNOWN;
        }
        if (bit(plan.standing, pipe) == 0) {
            return STATE;
        }
        return plan.isWetBy(pipe, r, c) ? 1 : 0;
    }

    public int dry(int i) {
        int count = 0;
        for (int r = 0; r < plan.rows; r++) {
            for (int c = 0; c < plan.columns; c++) {
                if (plan.isDry(r, c)) {
                    if (count == i) {
                        return r * MOST_SIDE + c;
                    }
                    count++;
                }
            }
        }
        return i == -1 ? count : NONE;
    }

    public int near(int d) {
        if (!isWithin(d, 1, MOST_NEAR)) {
            return OUTSIDE;
        }
        for (int pipe = 0; pipe < MOST_PIPES; pipe++) {
            if (plan.isNearAnother(pipe, d * d)) {
                return pipe;
            }
        }
        return NONE;
    }

    public int told(int what) {
        switch (what) {
            case 0: return net.sizes;
            case 1: return net.pipes;
            case 2: return Integer.bitCount(net.heads);
            case 3: return Integer.bitCount(net.opened);
            case 4: return heaps;
            case 5: return Integer.bitCount(net.freed);
            case 6: return Integer.bitCount(plan.standing);
            case 7: return plan.countOpenCells();
            case 8: return plan.rows;
            case 9: return plan.columns;
            default: return OUTSIDE;
        }
    }

    private boolean isPipe(int pipe) {
        return pipe >= 0 && pipe < net.pipes;
    }

    private boolean isEnd(int pipe) {
        return pipe == SUPPLY || isPipe(pipe);
    }

    private boolean isHead(int pipe) {
        return isPipe(pipe) && bit(net.heads, pipe) == 1;
    }

    private boolean isSize(int size) {
        return size >= 0 && size < net.sizes;
    }

    private boolean isHeap(int heap) {
        return heap >= 0 && heap < heaps;
    }

    private long leastOfHeap(int heap) {
        widths.holdPressures(LOW, members[heap]);
        return widths.leastSpare(members[heap]);
    }

    /** The G of the HEAP's ends stand gathered already: they do not hang on the PRESSURE. */
    private boolean isMetWithLess(int heap, int hundredths) {
        int left = Math.max(1, net.pressure * (100 - hundredths) / 100);
        widths.fall(LOW, net.drags, left);
        return widths.leastSpare(members[heap]) >= 0;
    }

    /** Less PRESSURE never raises a LOW P, so the hundredths from the answer on all fail: halving finds it. */
    private int leastTooMuch(int heap) {
        int enough = 0;
        int tooMuch = 100;
        for (int i = 0; i < 100 && tooMuch - enough > 1; i++) {
            int middle = (enough + tooMuch) / 2;
            if (isMetWithLess(heap, middle)) {
                enough = middle;
            } else {
                tooMuch = middle;
            }
        }
        return tooMuch;
    }

    private static boolean isSide(int side) {
        return side == LOW || side == HIGH;
    }

    private static boolean isWithin(int n, int least, int most) {
        return n >= least && n <= most;
    }

    private static int bit(int bits, int i) {
        return bits >>> i & 1;
    }

    private static int withBit(int bits, int i, boolean is) {
        return is ? bits | 1 << i : bits & ~(1 << i);
    }

    /** Roots and quotients of numbers that are 0 or more, cut down or, if told so, up. */
    private static final class Whole {
        private Whole() {
        }

        static long quotient(long n, long by, boolean up) {
            if (by < 1) {
                return 0;
            }
            return up ? (n + by - 1) / by : n / by;
        }

        /** Newton's steps, begun above the root, fall until they reach it. */
        static long root(long n, boolean up) {
            if (n < 1) {
                return 0;
            }
            long x = 1L << (65 - Long.numberOfLeadingZeros(n)) / 2;
            for (int i = 0; i < 64 && x > 0; i++) {
                long next = (x + n / x) / 2;
                if (next >= x) {
                    break;
                }
                x = next;
            }
            return up && x * x < n ? x + 1 : x;
        }
    }

    /** SUPPLY, SIZES, PIPES and HEADS as they were told. Sets of PIPES or HEADS are bits of one number. */
    private static final class Net {
        int pressure;
        int sizes;
        final int[] sizeDrags;
        final int[] sizePrices;
        int pipes;
        final int[] from;
        final int[] lengths;
        final int[] sizeOf;
        /** By ends, 0 behind the SUPPLY and PIPE + 1 behind a PIPE: PIPES from the SUPPLY to there. */
        final int[] steps;
        /** By ends: the DRAG of what leads there. */
        final int[] drags;
        int closed;
        int freed;
        int heads;
        int opened;
        final int[] factors;
        final int[] needs;
        final int[] clogs;

        Net() {
            pressure = 1000;
            sizeDrags = new int[MOST_SIZES];
            sizePrices = new int[MOST_SIZES];
            from = new int[MOST_PIPES];
            lengths = new int[MOST_PIPES];
            sizeOf = new int[MOST_PIPES];
            steps = new int[MOST_ENDS];
            drags = new int[MOST_ENDS];
            factors = new int[MOST_PIPES];
            needs = new int[MOST_PIPES];
            clogs = new int[MOST_PIPES];
        }

        int addSize(int drag, int price) {
            sizeDrags[sizes] = drag;
            sizePrices[sizes] = price;
            return sizes++;
        }

        int addPipe(int begin, int length, int size) {
            from[pipes] = begin;
            lengths[pipes] = length;
            steps[pipes + 1] = steps[begin + 1] + 1;
            setSize(pipes, size);
            return pipes++;
        }

        void setSize(int pipe, int size) {
            sizeOf[pipe] = size;
            drags[pipe + 1] = dragWith(pipe, size);
        }

        void setHead(int pipe, int factor, int need) {
            heads = withBit(heads, pipe, true);
            opened = withBit(opened, pipe, false);
            factors[pipe] = factor;
            needs[pipe] = need;
            clogs[pipe] = 0;
        }

        int dragWith(int pipe, int size) {
            return lengths[pipe] * sizeDrags[size];
        }

        int priceWith(int pipe, int size) {
            return lengths[pipe] * sizePrices[size];
        }

        int priceOfAll() {
            int sum = 0;
            for (int pipe = 0; pipe < pipes; pipe++) {
                sum += priceWith(pipe, sizeOf[pipe]);
            }
            return sum;
        }

        int factorNow(int pipe) {
            return factors[pipe] * (100 - clogs[pipe]) / 100;
        }

        int countFrom(int pipe) {
            int count = 0;
            for (int other = pipe + 1; other < pipes; other++) {
                if (from[other] == pipe) {
                    count++;
                }
            }
            return count;
        }
    }

    /** The rows of G and P, by ends as in the net, that calls fill anew and then read. */
    private static final class Widths {
        final Net net;
        final long[] g;
        final long[] p;

        Widths(Net net) {
            this.net = net;
            g = new long[MOST_ENDS];
            p = new long[MOST_ENDS];
        }

        /** Leaves in p what one side holds; each side of P rests on the other side of G. */
        void holdPressures(int side, int opened) {
            gather(HIGH - side, net.drags, opened);
            fall(side, net.drags, net.pressure);
        }

        /** PIPES have greater numbers than those they begin at: going down, each end is whole when it is used. */
        void gather(int side, int[] drags, int opened) {
            Arrays.fill(g, 0);
            for (int pipe = net.pipes - 1; pipe >= 0; pipe--) {
                if (bit(opened, pipe) == 1) {
                    g[pipe + 1] += UNIT * net.factorNow(pipe);
                }
                g[net.from[pipe] + 1] += conductOf(pipe + 1, side, drags);
            }
        }

        long conductOf(int end, int side, int[] drags) {
            long atEnd = g[end];
            if (atEnd == 0 || isClosed(end)) {
                return 0;
            }
            long d = (1L << 50) + drags[end] * atEnd * atEnd;
            return Whole.quotient(atEnd << 25, Whole.root(d, side == LOW), side == HIGH);
        }

        void fall(int side, int[] drags, int pressure) {
            p[0] = fallen(UNIT * pressure, 0, side, drags);
            for (int pipe = 0; pipe < net.pipes; pipe++) {
                p[pipe + 1] = fallen(p[net.from[pipe] + 1], pipe + 1, side, drags);
            }
        }

        private long fallen(long before, int end, int side, int[] drags) {
            if (isClosed(end)) {
                return 0;
            }
            long e = (1L << 30) + Whole.quotient(drags[end] * g[end] * g[end], 1L << 20, side == LOW);
            return Whole.quotient(before << 30, e, side == HIGH);
        }

        private boolean isClosed(int end) {
            return end > 0 && bit(net.closed, end - 1) == 1;
        }

        /** Of a HEAD that is OPEN. */
        long flowOf(int pipe, int side) {
            return net.factorNow(pipe) * Whole.root(p[pipe + 1] * UNIT, side == HIGH);
        }

        /** What LOW Q is above the NEED of a HEAD that is OPEN. */
        long spareOf(int pipe) {
            return flowOf(pipe, LOW) - UNIT * net.needs[pipe];
        }

        long leastSpare(int heads) {
            if (heads == 0) {
                return 0;
            }
            long least = BEYOND;
            for (int pipe = 0; pipe < net.pipes; pipe++) {
                if (bit(heads, pipe) == 1) {
                    least = Math.min(least, spareOf(pipe));
                }
            }
            return least;
        }
    }

    /** Looks for the SIZES of the FREE PIPES; the net stays as it is until they are found. */
    private static final class Chooser {
        final Net net;
        final Widths widths;
        final int[] members;
        int heaps;
        int count;
        final int[] pipes;
        final int[] tried;
        final int[] best;
        int bestPrice;
        /** The least price of the FREE PIPES from the k-th on. */
        final int[] leastRest;
        /** By ends: the DRAGS between which a PIPE without a SIZE yet still may come; of others both are its own. */
        final int[] leastDrags;
        final int[] mostDrags;
        /** The HEAP that failed last is asked first: it is the likeliest to fail again. */
        int failed;

        Chooser(Net net, Widths widths, int[] members) {
            this.net = net;
            this.widths = widths;
            this.members = members;
            pipes = new int[MOST_FREE];
            tried = new int[MOST_FREE];
            best = new int[MOST_FREE];
            leastRest = new int[MOST_FREE + 1];
            leastDrags = new int[MOST_ENDS];
            mostDrags = new int[MOST_ENDS];
        }

        void begin(int heapsNow) {
            heaps = heapsNow;
            failed = 0;
            bestPrice = BEYOND;
            listFreePipes();
        }

        /** Gives the FREE PIPES the SIZES that the search has found; false, if it has found none. */
        boolean settle() {
            if (bestPrice == BEYOND) {
                return false;
            }
            for (int k = 0; k < count; k++) {
                net.setSize(pipes[k], best[k]);
            }
            return true;
        }

        private void listFreePipes() {
            System.arraycopy(net.drags, 0, leastDrags, 0, MOST_ENDS);
            System.arraycopy(net.drags, 0, mostDrags, 0, MOST_ENDS);
            count = 0;
            for (int pipe = 0; pipe < net.pipes && count < MOST_FREE; pipe++) {
                if (bit(net.freed, pipe) == 1) {
                    pipes[count] = pipe;
                    widen(count);
                    count++;
                }
            }
            leastRest[count] = 0;
            for (int k = count - 1; k >= 0; k--) {
                leastRest[k] = leastRest[k + 1] + leastPrice(pipes[k]);
            }
        }

        private int leastPrice(int pipe) {
            int least = BEYOND;
            for (int size = 0; size < net.sizes; size++) {
                least = Math.min(least, net.priceWith(pipe, size));
            }
            return least;
        }

        /** Lesser SIZES come first, so of equal prices the first found stays. */
        private static void search(Chooser c, int depth, int price) {
            if (depth > c.count || price + c.leastRest[depth] >= c.bestPrice) {
                return;
            }
            if (depth == c.count) {
                if (c.areAllMet(HIGH)) {
                    c.bestPrice = price;
                    System.arraycopy(c.tried, 0, c.best, 0, MOST_FREE);
                }
                return;
            }
            if (depth < c.count - 1 && !c.areAllMet(LOW)) {
                return;
            }
            for (int size = 0; size < c.net.sizes; size++) {
                c.fix(depth, size);
                search(c, depth + 1, price + c.net.priceWith(c.pipes[depth], size));
            }
            c.widen(depth);
        }

        private void fix(int k, int size) {
            int drag = net.dragWith(pipes[k], size);
            tried[k] = size;
            leastDrags[pipes[k] + 1] = drag;
            mostDrags[pipes[k] + 1] = drag;
        }

        private void widen(int k) {
            int least = BEYOND;
            int most = 0;
            for (int size = 0; size < net.sizes; size++) {
                int drag = net.dragWith(pipes[k], size);
                least = Math.min(least, drag);
                most = Math.max(most, drag);
            }
            leastDrags[pipes[k] + 1] = least;
            mostDrags[pipes[k] + 1] = most;
        }

        /**
         * With every SIZE fixed and the HIGH G: whether all HEAPS are MET. While some are not fixed and with the
         * LOW G: false only if no SIZES can meet all. For LOW G by the most DRAG is not above the real G of any
         * choice, and so not above its HIGH G; by that and the least DRAG no LOW P comes out below its due.
         */
        private boolean areAllMet(int sideOfG) {
            int heap = failed;
            for (int i = 0; i < heaps; i++) {
                if (heap >= heaps) {
                    heap = 0;
                }
                widths.gather(sideOfG, mostDrags, members[heap]);
                widths.fall(LOW, leastDrags, net.pressure);
                if (widths.leastSpare(members[heap]) < 0) {
                    failed = heap;
                    return false;
                }
                heap++;
            }
            return true;
        }
    }

    /** The floor and the HEADS that STAND on it. */
    private static final class Plan {
        int rows;
        int columns;
        final int[] kinds;
        int standing;
        final int[] rowOf;
        final int[] columnOf;
        final int[] reachOf;

        Plan() {
            rows = LEAST_SIDE;
            columns = LEAST_SIDE;
            kinds = new int[MOST_SIDE * MOST_SIDE];
            rowOf = new int[MOST_PIPES];
            columnOf = new int[MOST_PIPES];
            reachOf = new int[MOST_PIPES];
        }

        void lay(int newRows, int newColumns) {
            rows = newRows;
            columns = newColumns;
            standing = 0;
            Arrays.fill(kinds, OPEN_CELL);
        }

        boolean isCell(int r, int c) {
            return r >= 0 && r < rows && c >= 0 && c < columns;
        }

        int kindOf(int r, int c) {
            return kinds[r * MOST_SIDE + c];
        }

        int countOpenCells() {
            int count = 0;
            for (int r = 0; r < rows; r++) {
                for (int c = 0; c < columns; c++) {
                    if (kindOf(r, c) == OPEN_CELL) {
                        count++;
                    }
                }
            }
            return count;
        }

        int whoStandsIn(int r, int c) {
            for (int pipe = 0; pipe < MOST_PIPES; pipe++) {
                if (bit(standing, pipe) == 1 && rowOf[pipe] == r && columnOf[pipe] == c) {
                    return pipe;
                }
            }
            return NONE;
        }

        void place(int pipe, int r, int c, int reach) {
            standing = withBit(standing, pipe, true);
            rowOf[pipe] = r;
            columnOf[pipe] = c;
            reachOf[pipe] = reach;
        }

        boolean isDry(int r, int c) {
            if (kindOf(r, c) != OPEN_CELL) {
                return false;
            }
            for (int pipe = 0; pipe < MOST_PIPES; pipe++) {
                if (bit(standing, pipe) == 1 && isWetBy(pipe, r, c)) {
                    return false;
                }
            }
            return true;
        }

        boolean isWetBy(int pipe, int r, int c) {
            return kindOf(r, c) == OPEN_CELL
                && squareTo(pipe, r, c) <= reachOf[pipe] * reachOf[pipe]
                && !isBehindWall(pipe, r, c);
        }

        /** Cells outside the box between both have no inner point on the line. */
        private boolean isBehindWall(int pipe, int r, int c) {
            int lastRow = Math.max(rowOf[pipe], r);
            int lastColumn = Math.max(columnOf[pipe], c);
            for (int row = Math.min(rowOf[pipe], r); row <= lastRow; row++) {
                for (int column = Math.min(columnOf[pipe], c); column <= lastColumn; column++) {
                    if (kindOf(row, column) == WALL
                        && isCut(row - rowOf[pipe], column - columnOf[pipe], r - rowOf[pipe], c - columnOf[pipe])) {
                        return true;
                    }
                }
            }
            return false;
        }

        /**
         * Whether the line from the middle of a cell to the one so many rows and columns on cuts the inside of the
         * cell between them that is so many rows and columns away: then corners of it lie on both sides.
         */
        private static boolean isCut(int rowsAway, int columnsAway, int rowsOn, int columnsOn) {
            int across = rowsOn * columnsAway - columnsOn * rowsAway;
            return 2 * Math.abs(across) < Math.abs(rowsOn) + Math.abs(columnsOn);
        }

        private int squareTo(int pipe, int r, int c) {
            int rowsOn = r - rowOf[pipe];
            int columnsOn = c - columnOf[pipe];
            return rowsOn * rowsOn + columnsOn * columnsOn;
        }

        boolean isNearAnother(int pipe, int square) {
            if (bit(standing, pipe) == 0) {
                return false;
            }
            for (int other = 0; other < MOST_PIPES; other++) {
                if (other != pipe && bit(standing, other) == 1
                    && squareTo(pipe, rowOf[other], columnOf[other]) < square) {
                    return true;
                }
            }
            return false;
        }
    }
}
