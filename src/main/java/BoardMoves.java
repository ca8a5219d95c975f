/**
 * Parts placed on a board, pushed, and moved about by seeded steps so that the wire of all nets gets short.
 *
 * A call that may be refused changes the placement first and looks at it afterwards: the placement as it was
 * stands in 'before' and is put back when the new one is refused.
 */
public final class BoardMoves {
    public static final int NONE = -1;

    private static final long MOST_LENGTH = 65_536L;
    private static final int MOST_PARTS = 40;
    private static final int MOST_NETS = 40;
    private static final int MOST_PINS = 120;
    private static final int MOST_NEARS = 20;
    private static final int MOST_KEEP_OUTS = 10;
    private static final int MOST_PUSHES = 200;
    private static final int TURNS = 4;
    private static final long MOST_STEPS = 2_000L;
    private static final long ALLOWANCE_PART = 8L;
    private static final long ANY_WIRE = Long.MAX_VALUE;
    private static final long DRAW_FACTOR = 6364136223846793005L;
    private static final long DRAW_TERM = 1442695040888963407L;

    private final long boardWide;
    private final long boardHigh;
    private final Parts parts = new Parts();
    private final Limits limits = new Limits(parts);
    private final Wiring wiring = new Wiring(parts);
    private final Placement now = new Placement(parts);
    private final Placement before = new Placement(parts);
    private final Placement best = new Placement(parts);
    private long drawn;
    private long keptWire = 0L;

    public BoardMoves(long width, long height, long seed) {
        boardWide = Math.max(1L, Math.min(MOST_LENGTH, width));
        boardHigh = Math.max(1L, Math.min(MOST_LENGTH, height));
        drawn = seed;
    }

    public int part(long w, long h, int side) throws IllegalArgumentException {
        if (!isLength(w) || !isLength(h) || side < 0 || side > 1) {
            throw new IllegalArgumentException("a part is 1 .. 65,536 wide and high, on side 0 or 1");
        }
        return parts.add(w, h, side);
    }

    public boolean put(int part, long x, long y, int turn)
            throws IndexOutOfBoundsException, IllegalArgumentException {
        needPart(part);
        if (turn < 0 || turn >= TURNS) {
            throw new IllegalArgumentException("a turn is 0 .. 3");
        }
        // Looked at before any difference is taken, so that no far x or y can wrap.
        if (!fitsBoard(part, x, y, turn)) {
            return false;
        }
        if (now.placed[part] && turn != now.turn[part] && now.hasPlacedMate(part)) {
            return false;
        }
        before.copyFrom(now);
        if (now.placed[part]) {
            now.shiftGroup(part, x - now.x[part], y - now.y[part]);
            now.turn[part] = turn;
        } else {
            now.place(part, x, y, turn);
        }
        return keepChange(ANY_WIRE);
    }

    public boolean lock(int part, boolean on) throws IndexOutOfBoundsException {
        needPart(part);
        boolean another = parts.locked[part] != on;
        parts.locked[part] = on;
        return another;
    }

    public int net() {
        return wiring.addNet();
    }

    public boolean pin(int net, int part, long dx, long dy)
            throws IndexOutOfBoundsException, IllegalArgumentException {
        if (net < 0 || net >= wiring.nets) {
            throw new IndexOutOfBoundsException("no such net");
        }
        needPart(part);
        if (dx < 0L || dx > parts.w[part] || dy < 0L || dy > parts.h[part]) {
            throw new IllegalArgumentException("a pin lies in its part");
        }
        if (!wiring.addPin(net, part, dx, dy)) {
            return false;
        }
        keptWire = wiring.measure(now);
        return true;
    }

    public int push(int part, long x, long y) throws IndexOutOfBoundsException, IllegalStateException {
        needPart(part);
        if (!now.placed[part]) {
            throw new IllegalStateException("the part is not placed");
        }
        // The pushed one is never moved a second time: off the board here, it is so in the end.
        if (!fitsBoard(part, x, y, now.turn[part])) {
            return NONE;
        }
        before.copyFrom(now);
        long dx = x - now.x[part];
        long dy = y - now.y[part];
        boolean alongX = Math.abs(dx) >= Math.abs(dy);
        boolean upwards = alongX ? dx > 0L : dy > 0L;
        now.shiftGroup(part, dx, dy);
        boolean kept = clearTheWay(part, alongX, upwards) ? keepChange(ANY_WIRE) : takeBack();
        return kept ? countChanged(part) : NONE;
    }

    public long at(int part, int what) throws IndexOutOfBoundsException {
        needPart(part);
        switch (what) {
            case 0:
                return now.x[part];
            case 1:
                return now.y[part];
            case 2:
                return now.turn[part];
            case 3:
                return now.placed[part] ? 1L : 0L;
            case 4:
                return parts.locked[part] ? 1L : 0L;
            case 5:
                return parts.lowest[part];
            case 6:
                return parts.tall[part];
            default:
                throw new IndexOutOfBoundsException("what is 0 .. 6");
        }
    }

    public int run(long steps) throws IllegalArgumentException {
        if (steps < 0L || steps > MOST_STEPS) {
            throw new IllegalArgumentException("steps are 0 .. 2,000");
        }
        if (parts.count == 0 || steps == 0L) {
            return 0;
        }
        long firstWire = keptWire;
        long leastWire = keptWire;
        int kept = 0;
        best.copyFrom(now);
        for (long left = steps - 1L; left >= 0L; left--) {
            if (step(firstWire * left / (ALLOWANCE_PART * steps))) {
                kept++;
                if (keptWire < leastWire) {
                    leastWire = keptWire;
                    best.copyFrom(now);
                }
            }
        }
        now.copyFrom(best);
        keptWire = leastWire;
        return kept;
    }

    public long wire() {
        return keptWire;
    }

    public long full() {
        return wiring.measure(now);
    }

    public boolean near(int part, int other, long most)
            throws IndexOutOfBoundsException, IllegalArgumentException {
        needPart(part);
        needPart(other);
        if (most < 0L) {
            throw new IllegalArgumentException("a gap is not below 0");
        }
        if (part == other || !now.isNear(part, other, most)) {
            return false;
        }
        return limits.addNear(part, other, most);
    }

    public int group(int a, int b) throws IndexOutOfBoundsException {
        needPart(a);
        needPart(b);
        return parts.join(a, b);
    }

    public boolean height(int part, long h) throws IndexOutOfBoundsException, IllegalArgumentException {
        needPart(part);
        if (h < 0L || h > MOST_LENGTH) {
            throw new IllegalArgumentException("a height is 0 .. 65,536");
        }
        long old = parts.tall[part];
        parts.tall[part] = h;
        if (!standsWell(part)) {
            parts.tall[part] = old;
            return false;
        }
        return true;
    }

    public boolean keepOut(long x0, long y0, long x1, long y1, long height) throws IllegalArgumentException {
        if (height < 0L) {
            throw new IllegalArgumentException("a height is not below 0");
        }
        if (x0 >= x1 || y0 >= y1 || !limits.addKeepOut(x0, y0, x1, y1, height)) {
            return false;
        }
        if (!allStandWell()) {
            limits.dropKeepOut();
            return false;
        }
        return true;
    }

    public boolean clear2() {
        return allStandWell();
    }

    public int side(int part) throws IndexOutOfBoundsException {
        needPart(part);
        return parts.side[part];
    }

    private static boolean isLength(long length) {
        return length >= 1L && length <= MOST_LENGTH;
    }

    private void needPart(int part) {
        if (part < 0 || part >= parts.count) {
            throw new IndexOutOfBoundsException("no such part");
        }
    }

    private boolean fitsBoard(int part, long x, long y, int turn) {
        boolean upright = turn % 2 == 0;
        long wide = upright ? parts.w[part] : parts.h[part];
        long high = upright ? parts.h[part] : parts.w[part];
        return x >= 0L && x <= boardWide - wide && y >= 0L && y <= boardHigh - high;
    }

    private boolean standsWell(int part) {
        if (!now.placed[part]) {
            return true;
        }
        return fitsBoard(part, now.x[part], now.y[part], now.turn[part])
                && now.overlapped(part, 0) == NONE
                && limits.isLowEnough(now, part)
                && limits.isNearEnough(now, part);
    }

    private boolean allStandWell() {
        for (int i = 0; i < parts.count; i++) {
            if (!standsWell(i)) {
                return false;
            }
        }
        return true;
    }

    /**
     * Keeps the change since 'before' when it is allowed and the wire grows by no more than moreWire.
     * All stood well before, so that only what was changed since can stand badly.
     */
    private boolean keepChange(long moreWire) {
        for (int i = 0; i < parts.count; i++) {
            if (now.differs(before, i)) {
                boolean held = parts.locked[i] && before.placed[i];
                if (held || !standsWell(i)) {
                    return takeBack();
                }
            }
        }
        long newWire = wiring.measure(now);
        if (newWire - keptWire > moreWire) {
            return takeBack();
        }
        keptWire = newWire;
        return true;
    }

    private boolean takeBack() {
        now.copyFrom(before);
        return false;
    }

    private int countChanged(int except) {
        int changed = 0;
        for (int i = 0; i < parts.count; i++) {
            if (i != except && now.differs(before, i)) {
                changed++;
            }
        }
        return changed;
    }

    /** Moves neighbours ON until none overlap; false when the push is refused on the way, by its moves too. */
    private boolean clearTheWay(int pushed, boolean alongX, boolean upwards) {
        for (int moves = 0; moves < MOST_PUSHES; moves++) {
            int low = now.firstOverlapping();
            if (low == NONE) {
                return true;
            }
            int high = now.overlapped(low, low + 1);
            // Two of the pushed one's group are of the same group, too.
            if (high == NONE || parts.areMates(low, high)) {
                return false;
            }
            boolean lowGoes = goesOn(low, high, pushed, alongX, upwards);
            int going = lowGoes ? low : high;
            int staying = lowGoes ? high : low;
            long way = now.wayToBorder(going, staying, alongX, upwards);
            now.shiftGroup(going, alongX ? way : 0L, alongX ? 0L : way);
        }
        return false;
    }

    /** Whether of two that overlap the one with the lower number is the one that moves. */
    private boolean goesOn(int low, int high, int pushed, boolean alongX, boolean upwards) {
        if (parts.areMates(low, pushed)) {
            return false;
        }
        if (parts.areMates(high, pushed)) {
            return true;
        }
        long lowBegin = alongX ? now.x[low] : now.y[low];
        long highBegin = alongX ? now.x[high] : now.y[high];
        return upwards ? lowBegin > highBegin : lowBegin < highBegin;
    }

    private long draw() {
        drawn = drawn * DRAW_FACTOR + DRAW_TERM;
        return drawn >>> 33;
    }

    /** One step of a run: whether it was kept and changed something. */
    private boolean step(long moreWire) {
        long a = draw();
        long b = draw();
        long c = draw();
        long d = draw();
        int count = parts.count;
        if (count == 0) {
            return false;
        }
        int part = (int) (a % count);
        if (!now.placed[part] || parts.locked[part]) {
            return false;
        }
        before.copyFrom(now);
        if (b % 4L == 0L) {
            swapPlaces(part, (int) (c % count));
        } else if (b % 4L == 1L) {
            turnAlone(part, (int) (d % 3L) + 1);
        } else {
            now.shiftGroup(part, c % boardWide - now.x[part], d % boardHigh - now.y[part]);
        }
        return countChanged(NONE) > 0 && keepChange(moreWire);
    }

    private void swapPlaces(int part, int other) {
        if (!now.placed[other] || parts.areMates(part, other)) {
            return;
        }
        long dx = now.x[other] - now.x[part];
        long dy = now.y[other] - now.y[part];
        now.shiftGroup(part, dx, dy);
        now.shiftGroup(other, -dx, -dy);
    }

    private void turnAlone(int part, int quarters) {
        if (!now.hasPlacedMate(part)) {
            now.turn[part] = (now.turn[part] + quarters) % TURNS;
        }
    }

    /** What the parts are, wherever they stand; a group is told by its lowest part. */
    private static final class Parts {
        final long[] w = new long[MOST_PARTS];
        final long[] h = new long[MOST_PARTS];
        final int[] side = new int[MOST_PARTS];
        final long[] tall = new long[MOST_PARTS];
        final boolean[] locked = new boolean[MOST_PARTS];
        final int[] lowest = new int[MOST_PARTS];
        int count = 0;

        int add(long newW, long newH, int newSide) {
            if (count >= MOST_PARTS) {
                return NONE;
            }
            w[count] = newW;
            h[count] = newH;
            side[count] = newSide;
            lowest[count] = count;
            count++;
            return count - 1;
        }

        boolean areMates(int a, int b) {
            return lowest[a] == lowest[b];
        }

        int join(int a, int b) {
            int one = lowest[a];
            int two = lowest[b];
            int both = Math.min(one, two);
            int size = 0;
            for (int i = 0; i < count; i++) {
                if (lowest[i] == one || lowest[i] == two) {
                    lowest[i] = both;
                    size++;
                }
            }
            return size;
        }
    }

    /** Where the parts stand; one that is not placed has 0 everywhere. */
    private static final class Placement {
        final Parts parts;
        final long[] x = new long[MOST_PARTS];
        final long[] y = new long[MOST_PARTS];
        final int[] turn = new int[MOST_PARTS];
        final boolean[] placed = new boolean[MOST_PARTS];

        Placement(Parts parts) {
            this.parts = parts;
        }

        void copyFrom(Placement from) {
            for (int i = 0; i < parts.count; i++) {
                x[i] = from.x[i];
                y[i] = from.y[i];
                turn[i] = from.turn[i];
                placed[i] = from.placed[i];
            }
        }

        boolean differs(Placement other, int part) {
            return x[part] != other.x[part] || y[part] != other.y[part]
                    || turn[part] != other.turn[part] || placed[part] != other.placed[part];
        }

        void place(int part, long newX, long newY, int newTurn) {
            x[part] = newX;
            y[part] = newY;
            turn[part] = newTurn;
            placed[part] = true;
        }

        void shiftGroup(int part, long dx, long dy) {
            for (int i = 0; i < parts.count; i++) {
                if (placed[i] && parts.areMates(i, part)) {
                    x[i] += dx;
                    y[i] += dy;
                }
            }
        }

        boolean hasPlacedMate(int part) {
            for (int i = 0; i < parts.count; i++) {
                if (i != part && placed[i] && parts.areMates(i, part)) {
                    return true;
                }
            }
            return false;
        }

        long endX(int part) {
            return x[part] + (turn[part] % 2 == 0 ? parts.w[part] : parts.h[part]);
        }

        long endY(int part) {
            return y[part] + (turn[part] % 2 == 0 ? parts.h[part] : parts.w[part]);
        }

        boolean meetsArea(int part, long x0, long y0, long x1, long y1) {
            return placed[part] && x[part] < x1 && x0 < endX(part) && y[part] < y1 && y0 < endY(part);
        }

        /** The first part, from a number on, that overlaps this placed one on its side, or NONE. */
        int overlapped(int part, int from) {
            long endX = endX(part);
            long endY = endY(part);
            for (int i = from; i < parts.count; i++) {
                if (i != part && parts.side[i] == parts.side[part] && meetsArea(i, x[part], y[part], endX, endY)) {
                    return i;
                }
            }
            return NONE;
        }

        /** The first part that overlaps one with a higher number, or NONE. */
        int firstOverlapping() {
            for (int i = 0; i < parts.count; i++) {
                if (placed[i] && overlapped(i, i + 1) != NONE) {
                    return i;
                }
            }
            return NONE;
        }

        /** How far one must go along a way until it has just a border in common with the one that stays. */
        long wayToBorder(int going, int staying, boolean alongX, boolean upwards) {
            if (alongX) {
                return upwards ? endX(staying) - x[going] : x[staying] - endX(going);
            }
            return upwards ? endY(staying) - y[going] : y[staying] - endY(going);
        }

        /** Whether two parts are no farther apart than most, or not both placed. */
        boolean isNear(int a, int b, long most) {
            if (!placed[a] || !placed[b]) {
                return true;
            }
            long gapX = Math.max(x[a], x[b]) - Math.min(endX(a), endX(b));
            long gapY = Math.max(y[a], y[b]) - Math.min(endY(a), endY(b));
            return Math.max(0L, gapX) + Math.max(0L, gapY) <= most;
        }
    }

    /** The keep-outs and the near pairs. */
    private static final class Limits {
        final Parts parts;
        final long[] x0 = new long[MOST_KEEP_OUTS];
        final long[] y0 = new long[MOST_KEEP_OUTS];
        final long[] x1 = new long[MOST_KEEP_OUTS];
        final long[] y1 = new long[MOST_KEEP_OUTS];
        final long[] tallest = new long[MOST_KEEP_OUTS];
        final int[] one = new int[MOST_NEARS];
        final int[] other = new int[MOST_NEARS];
        final long[] most = new long[MOST_NEARS];
        int keepOuts = 0;
        int nears = 0;

        Limits(Parts parts) {
            this.parts = parts;
        }

        boolean addKeepOut(long fromX, long fromY, long toX, long toY, long height) {
            if (keepOuts >= MOST_KEEP_OUTS) {
                return false;
            }
            x0[keepOuts] = fromX;
            y0[keepOuts] = fromY;
            x1[keepOuts] = toX;
            y1[keepOuts] = toY;
            tallest[keepOuts] = height;
            keepOuts++;
            return true;
        }

        void dropKeepOut() {
            if (keepOuts > 0) {
                keepOuts--;
            }
        }

        boolean addNear(int part, int mate, long mostGap) {
            if (nears >= MOST_NEARS) {
                return false;
            }
            one[nears] = part;
            other[nears] = mate;
            most[nears] = mostGap;
            nears++;
            return true;
        }

        boolean isLowEnough(Placement at, int part) {
            for (int i = 0; i < keepOuts; i++) {
                if (parts.tall[part] > tallest[i] && at.meetsArea(part, x0[i], y0[i], x1[i], y1[i])) {
                    return false;
                }
            }
            return true;
        }

        boolean isNearEnough(Placement at, int part) {
            for (int i = 0; i < nears; i++) {
                boolean concerned = one[i] == part || other[i] == part;
                if (concerned && !at.isNear(one[i], other[i], most[i])) {
                    return false;
                }
            }
            return true;
        }
    }

    /** The nets and their pins; the rows of lows and highs are used anew by each measuring. */
    private static final class Wiring {
        final Parts parts;
        final int[] netOf = new int[MOST_PINS];
        final int[] partOf = new int[MOST_PINS];
        final long[] dx = new long[MOST_PINS];
        final long[] dy = new long[MOST_PINS];
        final boolean[] reached = new boolean[MOST_NETS];
        final long[] lowX = new long[MOST_NETS];
        final long[] highX = new long[MOST_NETS];
        final long[] lowY = new long[MOST_NETS];
        final long[] highY = new long[MOST_NETS];
        int nets = 0;
        int pins = 0;

        Wiring(Parts parts) {
            this.parts = parts;
        }

        int addNet() {
            if (nets >= MOST_NETS) {
                return NONE;
            }
            nets++;
            return nets - 1;
        }

        boolean addPin(int net, int part, long fromX, long fromY) {
            if (pins >= MOST_PINS) {
                return false;
            }
            netOf[pins] = net;
            partOf[pins] = part;
            dx[pins] = fromX;
            dy[pins] = fromY;
            pins++;
            return true;
        }

        long measure(Placement at) {
            for (int net = 0; net < nets; net++) {
                reached[net] = false;
            }
            for (int pin = 0; pin < pins; pin++) {
                int part = partOf[pin];
                if (at.placed[part]) {
                    int turn = at.turn[part];
                    reach(netOf[pin], at.x[part] + turnedX(pin, part, turn), at.y[part] + turnedY(pin, part, turn));
                }
            }
            long sum = 0L;
            for (int net = 0; net < nets; net++) {
                if (reached[net]) {
                    sum += highX[net] - lowX[net] + highY[net] - lowY[net];
                }
            }
            return sum;
        }

        private void reach(int net, long x, long y) {
            boolean first = !reached[net];
            reached[net] = true;
            lowX[net] = first ? x : Math.min(lowX[net], x);
            highX[net] = first ? x : Math.max(highX[net], x);
            lowY[net] = first ? y : Math.min(lowY[net], y);
            highY[net] = first ? y : Math.max(highY[net], y);
        }

        private long turnedX(int pin, int part, int turn) {
            switch (turn) {
                case 1:
                    return parts.h[part] - dy[pin];
                case 2:
                    return parts.w[part] - dx[pin];
                case 3:
                    return dy[pin];
                default:
                    return dx[pin];
            }
        }

        private long turnedY(int pin, int part, int turn) {
            switch (turn) {
                case 1:
                    return dx[pin];
                case 2:
                    return parts.h[part] - dy[pin];
                case 3:
                    return parts.w[part] - dx[pin];
                default:
                    return dy[pin];
            }
        }
    }
}
