import java.util.function.Predicate;
import java.util.function.Supplier;

/** Calls with the answers that are due, promise by promise. */
public final class PromiseTests {
    private static final String INDEX = "throws.IndexOutOfBoundsException";
    private static final String ARGUMENT = "throws.IllegalArgumentException";
    private static final String STATE = "throws.IllegalStateException";
    private static int wrong = 0;
    private static int promise = 0;

    private static void due(String call, Supplier<Object> got, Object want) {
        String answer;
        try {
            answer = String.valueOf(got.get());
        } catch (IndexOutOfBoundsException | IllegalArgumentException | IllegalStateException e) {
            answer = "throws." + e.getClass().getSimpleName();
        }
        if (!answer.equals(String.valueOf(want))) {
            wrong++;
            System.out.println("promise " + promise + ": " + call + " answered " + answer + ", due is " + want);
        }
    }

    /** Where a part stands: x, y, turn. */
    private static void stands(BoardMoves b, int part, long x, long y, long turn) {
        due("part " + part + " at", () -> b.at(part, 0) + " " + b.at(part, 1) + " " + b.at(part, 2), x + " " + y + " " + turn);
    }

    /** A board with parts of side 0, w and h given one after the other. */
    private static BoardMoves board(long width, long height, long seed, long... sizes) {
        BoardMoves b = new BoardMoves(width, height, seed);
        for (int i = 0; i + 1 < sizes.length; i += 2) b.part(sizes[i], sizes[i + 1], 0);
        return b;
    }

    private static long[] draws(long seed, int count) {
        long[] row = new long[count];
        long s = seed;
        for (int i = 0; i < count; i++) {
            s = s * 6364136223846793005L + 1442695040888963407L;
            row[i] = s >>> 33;
        }
        return row;
    }

    /** The first seed whose draws are as asked for. */
    private static long seed(int count, Predicate<long[]> asked) {
        for (long s = 0; s < 50_000_000L; s++) if (asked.test(draws(s, count))) return s;
        throw new UnsupportedOperationException("no such seed");
    }

    private static void newObject() {
        BoardMoves b = new BoardMoves(10, 10, 5);
        due("wire()", b::wire, 0);
        due("full()", b::full, 0);
        due("clear2()", b::clear2, true);
        due("run(7) without parts", () -> b.run(7), 0);
        due("at(0, 0)", () -> b.at(0, 0), INDEX);
        due("pin(0, 0, 0, 0)", () -> b.pin(0, 0, 0, 0), INDEX);
        due("NONE", () -> BoardMoves.NONE, -1);
        for (long low : new long[] {0, -1, Long.MIN_VALUE, 1}) {
            BoardMoves least = board(low, low, 0, 1, 1, 2, 1);
            due("put on a board of 1", () -> least.put(0, 0, 0, 0), true);
            due("put beside it", () -> least.put(0, 1, 0, 0), false);
            due("put above it", () -> least.put(0, 0, 1, 0), false);
            due("put what is too wide", () -> least.put(1, 0, 0, 0), false);
        }
        for (long high : new long[] {65536, 65537, Long.MAX_VALUE}) {
            BoardMoves most = board(high, high, 0, 1, 1);
            due("put at the far corner", () -> most.put(0, 65535, 65535, 0), true);
            due("put beyond x", () -> most.put(0, 65536, 0, 0), false);
            due("put beyond y", () -> most.put(0, 0, 65536, 0), false);
        }
    }

    private static void part() {
        BoardMoves b = new BoardMoves(10, 10, 0);
        due("part(0, 1, 0)", () -> b.part(0, 1, 0), ARGUMENT);
        due("part(1, 0, 0)", () -> b.part(1, 0, 0), ARGUMENT);
        due("part(65537, 1, 0)", () -> b.part(65537, 1, 0), ARGUMENT);
        due("part(1, 65537, 0)", () -> b.part(1, 65537, 0), ARGUMENT);
        due("part(1, 1, -1)", () -> b.part(1, 1, -1), ARGUMENT);
        due("part(1, 1, 2)", () -> b.part(1, 1, 2), ARGUMENT);
        due("part(MIN, 1, 0)", () -> b.part(Long.MIN_VALUE, 1, 0), ARGUMENT);
        due("part(65536, 65536, 1)", () -> b.part(65536, 65536, 1), 0);
        for (int i = 1; i < 40; i++) {
            int number = i;
            due("part " + i, () -> b.part(1, 1, 0), number);
            due("not placed", () -> b.at(number, 3), 0);
            due("in no group", () -> b.at(number, 5), number);
        }
        due("the 41st", () -> b.part(1, 1, 0), BoardMoves.NONE);
        due("the 41st, wrong", () -> b.part(1, 1, 2), ARGUMENT);
        due("at(40, 0)", () -> b.at(40, 0), INDEX);
    }

    private static void put() {
        BoardMoves b = board(20, 10, 0, 4, 2, 3, 3, 2, 2);
        b.part(4, 2, 1);
        due("no such part", () -> b.put(4, 0, 0, 0), INDEX);
        due("part -1", () -> b.put(-1, 0, 0, 0), INDEX);
        due("no such part, nor turn", () -> b.put(4, 0, 0, 4), INDEX);
        due("turn 4", () -> b.put(0, 0, 0, 4), ARGUMENT);
        due("turn -1", () -> b.put(0, 0, 0, -1), ARGUMENT);
        due("put(0, 16, 8, 0)", () -> b.put(0, 16, 8, 0), true);
        due("put(0, 17, 8, 0)", () -> b.put(0, 17, 8, 0), false);
        due("put(0, 16, 9, 0)", () -> b.put(0, 16, 9, 0), false);
        due("put(0, -1, 0, 0)", () -> b.put(0, -1, 0, 0), false);
        due("put(0, 0, -1, 0)", () -> b.put(0, 0, -1, 0), false);
        due("put(0, MAX, 0, 0)", () -> b.put(0, Long.MAX_VALUE, 0, 0), false);
        due("put(0, 0, MIN, 0)", () -> b.put(0, 0, Long.MIN_VALUE, 0), false);
        stands(b, 0, 16, 8, 0);
        due("turned off the board", () -> b.put(0, 16, 8, 1), false);
        due("turned", () -> b.put(0, 18, 6, 1), true);
        due("turned, too far", () -> b.put(0, 19, 6, 3), false);
        stands(b, 0, 18, 6, 1);
        due("turned thrice", () -> b.put(0, 0, 0, 3), true);
        due("overlapping", () -> b.put(1, 1, 3, 0), false);
        due("not placed yet", () -> b.at(1, 3), 0);
        stands(b, 1, 0, 0, 0);
        due("a border in common", () -> b.put(1, 2, 3, 0), true);
        due("another side", () -> b.put(3, 0, 0, 0), true);
        due("placed", () -> b.at(3, 3), 1);
        due("over the old place of itself", () -> b.put(1, 3, 4, 0), true);
        putGroup();
    }

    private static void putGroup() {
        BoardMoves b = board(20, 10, 0, 2, 2, 2, 2, 2, 2);
        b.group(0, 1);
        b.put(0, 0, 0, 0);
        due("another of the group is placed, this one not: any turn", () -> b.put(1, 4, 0, 1), true);
        stands(b, 0, 0, 0, 0);
        due("turned in a group", () -> b.put(0, 0, 0, 2), false);
        due("moved with its group", () -> b.put(0, 3, 5, 0), true);
        stands(b, 0, 3, 5, 0);
        stands(b, 1, 7, 5, 1);
        due("its group would leave the board", () -> b.put(0, 15, 5, 0), false);
        b.put(2, 12, 5, 0);
        due("its group would overlap", () -> b.put(0, 7, 5, 0), false);
        stands(b, 0, 3, 5, 0);
        stands(b, 1, 7, 5, 1);
        b.group(0, 2);
        due("three together", () -> b.put(2, 13, 6, 0), true);
        stands(b, 0, 4, 6, 0);
        stands(b, 1, 8, 6, 1);
        BoardMoves alone = board(20, 10, 0, 2, 1, 2, 1);
        alone.group(0, 1);
        alone.put(0, 0, 0, 0);
        due("turned, no other of the group placed", () -> alone.put(0, 1, 1, 1), true);
    }

    private static void lock() {
        BoardMoves b = board(20, 10, 0, 2, 2, 2, 2);
        due("no such part", () -> b.lock(2, true), INDEX);
        due("part -1", () -> b.lock(-1, false), INDEX);
        due("lock(0, false)", () -> b.lock(0, false), false);
        due("lock(0, true)", () -> b.lock(0, true), true);
        due("lock(0, true) again", () -> b.lock(0, true), false);
        due("at(0, 4)", () -> b.at(0, 4), 1);
        due("a locked one that is not placed", () -> b.put(0, 3, 3, 0), true);
        due("moved", () -> b.put(0, 4, 3, 0), false);
        due("turned", () -> b.put(0, 3, 3, 1), false);
        due("put where it is", () -> b.put(0, 3, 3, 0), true);
        due("pushed", () -> b.push(0, 4, 3), BoardMoves.NONE);
        due("pushed to where it is", () -> b.push(0, 3, 3), 0);
        b.put(1, 6, 3, 0);
        b.group(0, 1);
        due("its group moved", () -> b.put(1, 7, 3, 0), false);
        due("its group pushed", () -> b.push(1, 7, 3), BoardMoves.NONE);
        stands(b, 0, 3, 3, 0);
        stands(b, 1, 6, 3, 0);
        due("lock(0, false)", () -> b.lock(0, false), true);
        due("moved then", () -> b.put(1, 7, 3, 0), true);
        stands(b, 0, 4, 3, 0);
        BoardMoves all = board(30, 30, 11, 2, 2);
        all.put(0, 3, 3, 0);
        all.lock(0, true);
        due("run(500) with a locked one", () -> all.run(500), 0);
        stands(all, 0, 3, 3, 0);
    }

    private static void net() {
        BoardMoves b = new BoardMoves(10, 10, 0);
        for (int i = 0; i < 40; i++) due("net " + i, b::net, i);
        due("the 41st", b::net, BoardMoves.NONE);
        due("wire()", b::wire, 0);
    }

    private static void pin() {
        BoardMoves b = board(40, 40, 0, 5, 3, 1, 1);
        due("no net yet", () -> b.pin(0, 0, 0, 0), INDEX);
        b.net();
        due("net -1", () -> b.pin(-1, 0, 0, 0), INDEX);
        due("net 1", () -> b.pin(1, 0, 0, 0), INDEX);
        due("part 2", () -> b.pin(0, 2, 0, 0), INDEX);
        due("part -1", () -> b.pin(0, -1, 0, 0), INDEX);
        due("no net, nor in it", () -> b.pin(1, 0, 9, 9), INDEX);
        due("dx -1", () -> b.pin(0, 0, -1, 0), ARGUMENT);
        due("dx 6", () -> b.pin(0, 0, 6, 0), ARGUMENT);
        due("dy -1", () -> b.pin(0, 0, 0, -1), ARGUMENT);
        due("dy 4", () -> b.pin(0, 0, 0, 4), ARGUMENT);
        b.put(0, 10, 20, 1);
        b.put(1, 0, 0, 0);
        due("a turned part's pin lies in it as when not turned", () -> b.pin(0, 0, 5, 3), true);
        due("the other end", () -> b.pin(0, 1, 0, 0), true);
        due("wire with the new pins", b::wire, 10 + 25);
        for (int i = 2; i < 120; i++) due("pin " + i, () -> b.pin(0, 1, 1, 1), true);
        due("the 121st", () -> b.pin(0, 0, 0, 0), false);
        due("the 121st, wrong", () -> b.pin(0, 0, 6, 0), ARGUMENT);
        due("wire as before", b::wire, 10 + 25);
    }

    private static void push() {
        BoardMoves b = board(12, 12, 0, 3, 1, 3, 1, 3, 1);
        due("no such part", () -> b.push(3, 0, 0), INDEX);
        due("part -1", () -> b.push(-1, 0, 0), INDEX);
        due("not placed", () -> b.push(0, 0, 0), STATE);
        b.put(0, 0, 0, 0);
        b.put(1, 4, 0, 0);
        b.put(2, 8, 0, 0);
        due("both go on", () -> b.push(0, 3, 0), 2);
        stands(b, 0, 3, 0, 0);
        stands(b, 1, 6, 0, 0);
        stands(b, 2, 9, 0, 0);
        due("off the board", () -> b.push(0, 4, 0), BoardMoves.NONE);
        due("far off", () -> b.push(0, Long.MAX_VALUE, 0), BoardMoves.NONE);
        due("far off along y", () -> b.push(0, 3, Long.MIN_VALUE), BoardMoves.NONE);
        stands(b, 1, 6, 0, 0);
        due("nothing in the way", () -> b.push(0, 3, 4), 0);
        due("to where it is", () -> b.push(0, 3, 4), 0);
        b.put(1, 2, 6, 0);
        due("along y, as it goes farther so", () -> b.push(0, 4, 6), 1);
        stands(b, 1, 2, 7, 0);
        b.put(0, 4, 8, 0);
        due("along x, as it goes as far so", () -> b.push(0, 3, 7), 1);
        stands(b, 1, 0, 7, 0);
        b.put(0, 1, 10, 0);
        due("down along y", () -> b.push(0, 1, 7), 1);
        stands(b, 1, 0, 6, 0);
        pushOrder();
        pushGroups();
        pushRefused();
    }

    private static void pushOrder() {
        // 2 comes over both others: 0 goes first, and then 1 comes to lie on it from the same begin.
        BoardMoves b = board(20, 3, 0, 3, 1, 3, 1, 3, 1);
        b.put(0, 8, 0, 0);
        b.put(1, 11, 0, 0);
        b.put(2, 14, 0, 0);
        due("of two that begin the same the higher goes", () -> b.push(2, 10, 0), 2);
        stands(b, 0, 7, 0, 0);
        stands(b, 1, 4, 0, 0);
        // 1 lands on 2; both begin not the same: 2 begins farther on, though 1 was moved last.
        BoardMoves c = board(30, 3, 0, 4, 1, 4, 1, 4, 1);
        c.put(0, 0, 0, 0);
        c.put(1, 5, 0, 0);
        c.put(2, 10, 0, 0);
        due("a chain", () -> c.push(0, 4, 0), 2);
        stands(c, 1, 8, 0, 0);
        stands(c, 2, 12, 0, 0);
        // 1 lands beyond the begin of 2, so that it goes on itself once more.
        BoardMoves d = board(40, 3, 0, 6, 1, 2, 2, 8, 1);
        d.put(0, 0, 0, 0);
        d.put(1, 6, 0, 0);
        d.put(2, 9, 1, 0);
        due("the one that begins farther on goes", () -> d.push(0, 4, 0), 1);
        stands(d, 1, 17, 0, 0);
        stands(d, 2, 9, 1, 0);
        // Downwards, too, a rectangle begins at its corner: 1 lands at 24 .. 30 on 2 at 25 .. 27.
        BoardMoves e = board(40, 3, 0, 6, 1, 6, 2, 2, 1);
        e.put(0, 34, 0, 0);
        e.put(1, 28, 0, 0);
        e.put(2, 25, 1, 0);
        due("the one whose corner is farther on goes", () -> e.push(0, 30, 0), 1);
        stands(e, 1, 19, 0, 0);
        stands(e, 2, 25, 1, 0);
    }

    private static void pushGroups() {
        BoardMoves b = board(30, 30, 0, 2, 2, 2, 2, 2, 2, 2, 2);
        b.put(0, 0, 0, 0);
        b.put(1, 0, 5, 0);
        b.put(2, 4, 5, 0);
        b.put(3, 10, 10, 0);
        b.group(0, 1);
        b.group(2, 3);
        due("its group pushes, a group goes along", () -> b.push(0, 3, 0), 3);
        stands(b, 1, 3, 5, 0);
        stands(b, 2, 5, 5, 0);
        stands(b, 3, 11, 10, 0);
        b.lock(3, true);
        due("one of a group that goes along is locked", () -> b.push(0, 4, 0), BoardMoves.NONE);
        stands(b, 1, 3, 5, 0);
        b.lock(3, false);
        b.lock(2, true);
        due("one in the way is locked", () -> b.push(1, 4, 5), BoardMoves.NONE);
        stands(b, 0, 3, 0, 0);
        b.group(1, 2);
        b.lock(2, false);
        due("all of one group", () -> b.push(1, 4, 5), 3);
        stands(b, 3, 12, 10, 0);
        // The mate 0 of the pushed 2 lies on 1: it stays, though it begins farther on.
        BoardMoves m = board(30, 30, 0, 2, 2, 3, 2, 2, 2);
        m.put(0, 0, 0, 0);
        m.put(1, 3, 0, 0);
        m.put(2, 0, 9, 0);
        m.group(0, 2);
        due("a mate of the pushed one stays", () -> m.push(2, 4, 9), 2);
        stands(m, 0, 4, 0, 0);
        stands(m, 1, 6, 0, 0);
        BoardMoves c = board(30, 30, 0, 2, 2);
        c.part(2, 2, 1);
        c.put(0, 0, 0, 0);
        c.put(1, 2, 0, 0);
        due("another side is not pushed", () -> c.push(0, 2, 0), 0);
        stands(c, 1, 2, 0, 0);
    }

    private static void pushRefused() {
        BoardMoves b = board(30, 30, 0, 2, 2, 2, 2, 2, 2);
        b.put(0, 0, 0, 0);
        b.put(1, 3, 0, 0);
        b.put(2, 3, 3, 0);
        b.near(1, 2, 3);
        due("near enough", () -> b.push(0, 4, 0), 1);
        b.put(0, 0, 0, 0);
        due("not near enough", () -> b.push(0, 6, 0), BoardMoves.NONE);
        stands(b, 1, 6, 0, 0);
        BoardMoves c = board(30, 30, 0, 2, 2, 2, 2);
        c.put(0, 0, 0, 0);
        c.put(1, 6, 0, 0);
        c.height(1, 3);
        c.keepOut(9, 0, 10, 9, 2);
        due("up to the keep-out", () -> c.push(0, 5, 0), 1);
        stands(c, 1, 7, 0, 0);
        due("into the keep-out", () -> c.push(0, 6, 0), BoardMoves.NONE);
        stands(c, 0, 5, 0, 0);
        stands(c, 1, 7, 0, 0);
        due("over the keep-out", () -> c.push(0, 8, 0), 1);
        stands(c, 1, 10, 0, 0);
    }

    private static void at() {
        BoardMoves b = board(20, 20, 0, 4, 2, 4, 2, 4, 2);
        for (int what = 0; what < 5; what++) {
            int item = what;
            due("at(1, " + what + ")", () -> b.at(1, item), 0);
        }
        due("at(1, 5)", () -> b.at(1, 5), 1);
        due("at(1, 6)", () -> b.at(1, 6), 0);
        due("at(1, 7)", () -> b.at(1, 7), INDEX);
        due("at(1, -1)", () -> b.at(1, -1), INDEX);
        due("at(3, 0)", () -> b.at(3, 0), INDEX);
        due("at(-1, 0)", () -> b.at(-1, 0), INDEX);
        b.put(1, 5, 6, 3);
        b.lock(1, true);
        b.group(2, 1);
        b.height(1, 77);
        long[] want = {5, 6, 3, 1, 1, 1, 77};
        for (int what = 0; what < want.length; what++) {
            int item = what;
            due("at(1, " + what + ")", () -> b.at(1, item), want[item]);
        }
        due("at(2, 5)", () -> b.at(2, 5), 1);
    }

    private static void run() {
        BoardMoves b = board(30, 30, 3, 2, 2);
        due("run(-1)", () -> b.run(-1), ARGUMENT);
        due("run(2001)", () -> b.run(2001), ARGUMENT);
        due("run(MIN)", () -> b.run(Long.MIN_VALUE), ARGUMENT);
        due("run(0)", () -> b.run(0), 0);
        due("run(2000), nothing placed", () -> b.run(2000), 0);
        runMove();
        runTurn();
        runSwap();
        runAllowance();
        runDraws();
    }

    private static void runMove() {
        for (int kind = 2; kind < 4; kind++) {
            int way = kind;
            // Without wire the placement at the beginning stands in the end, but the step was kept.
            long s = seed(4, r -> r[1] % 4 == way && r[2] % 10 == 7 && r[3] % 12 == 3);
            BoardMoves b = board(10, 12, s, 2, 2);
            b.put(0, 0, 0, 0);
            due("a move, kept", () -> b.run(1), 1);
            stands(b, 0, 0, 0, 0);
            BoardMoves same = board(10, 12, s, 2, 2);
            same.put(0, 7, 3, 0);
            due("a move that changes nothing", () -> same.run(1), 0);
            BoardMoves wide = board(10, 12, s, 4, 2);
            wide.put(0, 0, 0, 0);
            due("a move off the board", () -> wide.run(1), 0);
        }
        long s = seed(4, r -> r[0] % 2 == 1 && r[1] % 4 == 3 && r[2] % 10 == 5 && r[3] % 12 == 2);
        BoardMoves b = board(10, 12, s, 2, 2, 2, 2);
        b.put(0, 0, 0, 0);
        b.put(1, 8, 10, 0);
        b.net();
        b.pin(0, 0, 0, 0);
        b.pin(0, 1, 0, 0);
        due("a move to less wire", () -> b.run(1), 1);
        stands(b, 1, 5, 2, 0);
        due("the wire then", b::wire, 7);
        due("the wire, anew", b::full, 7);
        BoardMoves bare = board(10, 12, s, 2, 2, 2, 2);
        bare.put(0, 0, 0, 0);
        due("a move of one that is not placed", () -> bare.run(1), 0);
        long middle = seed(4, r -> r[0] % 3 == 1 && r[1] % 4 == 3 && r[2] % 10 == 5 && r[3] % 12 == 2);
        for (boolean held : new boolean[] {false, true}) {
            BoardMoves three = board(10, 12, middle, 2, 2, 2, 2, 1, 1);
            three.put(0, 0, 0, 0);
            three.put(1, 8, 9, 0);
            three.put(2, 8, 8, 0);
            three.group(1, 2);
            three.net();
            three.pin(0, 0, 0, 0);
            three.pin(0, 1, 0, 0);
            three.lock(2, held);
            due("a move of a group, one locked: " + held, () -> three.run(1), held ? 0 : 1);
            stands(three, 1, held ? 8 : 5, held ? 9 : 2, 0);
            stands(three, 2, held ? 8 : 5, held ? 8 : 1, 0);
        }
    }

    private static void runTurn() {
        for (int more = 1; more <= 3; more++) {
            int quarters = more;
            long s = seed(4, r -> r[0] % 2 == 0 && r[1] % 4 == 1 && r[3] % 3 == quarters - 1);
            // The pin of part 0 goes through the corners of a square: turned as drawn, it meets that of part 1.
            BoardMoves b = board(10, 10, s, 4, 4, 1, 1);
            long[] px = {0, 4, 4, 0};
            long[] py = {0, 0, 4, 4};
            b.put(0, 0, 0, 0);
            b.put(1, quarters == 3 ? 0 : 4, quarters == 1 ? 0 : 4, 0);
            b.net();
            b.pin(0, 0, 0, 0);
            b.pin(0, 1, 0, 0);
            due("wire before the turn", b::wire, px[quarters] + py[quarters]);
            due("a turn by " + quarters, () -> b.run(1), 1);
            stands(b, 0, 0, 0, quarters);
            due("wire behind the turn", b::wire, 0);
            BoardMoves group = board(10, 10, s, 4, 4, 1, 1);
            group.group(0, 1);
            group.put(0, 0, 0, 0);
            due("in a group, the other one not placed", () -> group.run(1), 1);
            group.put(1, 9, 9, 0);
            BoardMoves both = board(10, 10, s, 4, 4, 1, 1);
            both.group(0, 1);
            both.put(0, 0, 0, 0);
            both.put(1, 9, 9, 0);
            due("in a group with a placed one", () -> both.run(1), 0);
        }
    }

    private static void runSwap() {
        long s = seed(4, r -> r[0] % 4 == 0 && r[1] % 4 == 0 && r[2] % 4 == 1);
        for (int kind = 0; kind < 5; kind++) {
            BoardMoves b = board(30, 30, s, 2, 2, 2, 1, 1, 1, 1, 1);
            b.put(0, 0, 0, 0);
            b.put(1, 20, 20, 1);
            b.put(2, 22, 26, 0);
            b.put(3, 3, 3, 0);
            b.net();
            b.pin(0, 0, 0, 0);
            b.pin(0, 2, 0, 0);
            if (kind == 1) b.group(0, 3);
            if (kind == 2) b.group(0, 1);
            if (kind == 3) b.lock(1, true);
            if (kind == 4) b.lock(0, true);
            int want = kind < 2 ? 1 : 0;
            due("a swap of kind " + kind, () -> b.run(1), want);
            stands(b, 0, want == 1 ? 20 : 0, want == 1 ? 20 : 0, 0);
            stands(b, 1, want == 1 ? 0 : 20, want == 1 ? 0 : 20, 1);
            stands(b, 3, kind == 1 ? 23 : 3, kind == 1 ? 23 : 3, 0);
            due("wire behind a swap", b::wire, want == 1 ? 8 : 48);
        }
        BoardMoves g = board(30, 30, s, 2, 2, 2, 1, 1, 1, 1, 1);
        g.put(0, 2, 0, 0);
        g.put(1, 20, 20, 1);
        g.put(2, 19, 26, 0);
        g.group(1, 2);
        g.net();
        g.pin(0, 0, 0, 0);
        g.pin(0, 2, 0, 0);
        due("a swap with one of a group", () -> g.run(1), 1);
        stands(g, 0, 20, 20, 0);
        stands(g, 1, 2, 0, 1);
        stands(g, 2, 1, 6, 0);
        due("wire behind it", g::wire, 19 + 14);
        BoardMoves b = board(30, 30, s, 2, 2, 2, 1, 1, 1, 1, 1);
        b.put(0, 0, 0, 0);
        due("with one that is not placed", () -> b.run(1), 0);
        long own = seed(4, r -> r[0] % 4 == 1 && r[1] % 4 == 0 && r[2] % 4 == 1);
        BoardMoves c = board(30, 30, own, 2, 2, 2, 1, 1, 1, 1, 1);
        c.put(1, 0, 0, 0);
        due("with itself", () -> c.run(1), 0);
    }

    private static void runAllowance() {
        // Wire 160 at first; two steps: the first one may add 160 * 1 / 8 / 2 = 10, the last one nothing.
        for (int more = 10; more <= 11; more++) {
            int added = more;
            long s = seed(8, r -> r[0] % 2 == 1 && r[1] % 4 >= 2 && r[2] % 200 == 160 + added && r[3] % 2 == 0 && r[5] % 4 == 1);
            BoardMoves b = board(200, 2, s, 1, 1, 1, 1);
            b.put(0, 0, 0, 0);
            b.put(1, 160, 0, 0);
            b.net();
            b.pin(0, 0, 0, 0);
            b.pin(0, 1, 0, 0);
            due("wire at first", b::wire, 160);
            int turns = turnKept(s);
            due("a first step that adds " + added, () -> b.run(2), (added == 10 ? 1 : 0) + turns);
            due("the least wire stands", () -> b.wire() <= 160, true);
        }
        long last = seed(4, r -> r[0] % 2 == 1 && r[1] % 4 >= 2 && r[2] % 200 == 161 && r[3] % 2 == 0);
        BoardMoves b = board(200, 2, last, 1, 1, 1, 1);
        b.put(0, 0, 0, 0);
        b.put(1, 160, 0, 0);
        b.net();
        b.pin(0, 0, 0, 0);
        b.pin(0, 1, 0, 0);
        due("a last step may add nothing", () -> b.run(1), 0);
    }

    /** Of the second step, a turn by quarters: part 0 grows the wire in its y alone, part 1 shortens nothing. */
    private static int turnKept(long s) {
        long[] r = draws(s, 8);
        int quarters = (int) (r[7] % 3) + 1;
        long[] px = {0, 1, 1, 0};
        long[] py = {0, 0, 1, 1};
        long change = r[4] % 2 == 0 ? py[quarters] - px[quarters] : py[quarters] + px[quarters];
        return change <= 0 ? 1 : 0;
    }

    private static void runDraws() {
        // Two runs of one board go on with the draws; a board whose seed stands there already runs likewise.
        BoardMoves first = drawn(12345, 3);
        long s = 12345;
        for (int i = 0; i < 4 * 50; i++) s = s * 6364136223846793005L + 1442695040888963407L;
        BoardMoves second = drawn(s, 3);
        first.run(50);
        for (int i = 0; i < 3; i++) {
            second.put(i, 60, 60 + 3 * i, 0);
            first.put(i, 60, 60 + 3 * i, 0);
        }
        for (int i = 0; i < 3; i++) {
            first.put(i, 3 * i, 0, 0);
            second.put(i, 3 * i, 0, 0);
        }
        due("the later run", () -> first.run(40), second.run(40));
        for (int i = 0; i < 3; i++) stands(first, i, second.at(i, 0), second.at(i, 1), second.at(i, 2));
        BoardMoves empty = new BoardMoves(70, 70, 999);
        empty.run(100);
        spread(empty, 3);
        BoardMoves fresh = drawn(999, 3);
        due("without parts nothing is drawn", () -> empty.run(300), fresh.run(300));
        for (int i = 0; i < 3; i++) stands(empty, i, fresh.at(i, 0), fresh.at(i, 1), fresh.at(i, 2));
    }

    private static BoardMoves drawn(long seed, int count) {
        BoardMoves b = new BoardMoves(70, 70, seed);
        spread(b, count);
        return b;
    }

    private static void spread(BoardMoves b, int count) {
        b.net();
        for (int i = 0; i < count; i++) {
            b.part(2, 2, 0);
            b.put(i, 20 * i, 10 * i, 0);
            b.pin(0, i, 1, 0);
        }
    }

    private static void wire(boolean anew) {
        BoardMoves b = board(100, 100, 0, 7, 4, 1, 1, 1, 1);
        b.net();
        b.net();
        b.net();
        b.pin(0, 0, 2, 1);
        b.pin(0, 1, 0, 0);
        Supplier<Object> wire = anew ? b::full : b::wire;
        due("nothing placed", wire, 0);
        b.put(0, 10, 20, 0);
        due("one placed", wire, 0);
        b.put(1, 0, 0, 0);
        due("not turned", wire, 12 + 21);
        b.put(0, 10, 20, 1);
        due("turned once", wire, 10 + 3 + 20 + 2);
        b.put(0, 10, 20, 2);
        due("turned twice", wire, 10 + 5 + 20 + 3);
        b.put(0, 10, 20, 3);
        due("turned three times", wire, 10 + 1 + 20 + 5);
        b.pin(1, 0, 0, 0);
        b.pin(1, 0, 7, 4);
        due("two pins of one part", wire, 36 + 4 + 7);
        b.pin(2, 2, 0, 0);
        b.pin(2, 1, 1, 1);
        due("a pin of a part not placed", wire, 47);
        b.put(2, 50, 60, 0);
        due("of one that is placed then", wire, 47 + 49 + 59);
        b.push(2, 50, 50);
        due("of one that is pushed", wire, 47 + 49 + 49);
        b.put(2, 10, 20, 0);
        due("a refused put", wire, 47 + 49 + 49);
        b.run(200);
        due("behind a run", wire, anew ? b.wire() : b.full());
    }

    private static void near() {
        BoardMoves b = board(60, 60, 0, 4, 2, 4, 2, 1, 1);
        due("no such part", () -> b.near(3, 0, 1), INDEX);
        due("no such other", () -> b.near(0, 3, 1), INDEX);
        due("part -1", () -> b.near(-1, 0, -1), INDEX);
        due("most -1", () -> b.near(0, 1, -1), ARGUMENT);
        due("one part, most -1", () -> b.near(0, 0, -1), ARGUMENT);
        due("one part", () -> b.near(0, 0, 5), false);
        b.put(0, 0, 0, 0);
        b.put(1, 7, 6, 0);
        due("gaps of 3 and 4, most 6", () -> b.near(0, 1, 6), false);
        due("gaps of 3 and 4, most 7", () -> b.near(0, 1, 7), true);
        due("moved away", () -> b.put(1, 8, 6, 0), false);
        due("moved away along y", () -> b.put(1, 7, 7, 0), false);
        due("moved nearer", () -> b.put(1, 6, 6, 0), true);
        due("along x alone", () -> b.put(1, 11, 1, 0), true);
        due("along x alone, too far", () -> b.put(1, 12, 1, 0), false);
        due("a border in common", () -> b.put(1, 4, 0, 0), true);
        due("most 0", () -> b.near(1, 0, 0), true);
        due("a gap of 1", () -> b.put(1, 5, 0, 0), false);
        due("corners alone", () -> b.put(1, 4, 2, 0), true);
        due("one not placed", () -> b.near(0, 2, 1), true);
        due("placed too far away", () -> b.put(2, 6, 0, 0), false);
        due("placed near enough", () -> b.put(2, 5, 0, 0), true);
        for (int i = 3; i < 20; i++) due("pair " + i, () -> b.near(0, 1, Long.MAX_VALUE), true);
        due("the 21st", () -> b.near(0, 1, 50), false);
        due("the 21st, wrong", () -> b.near(0, 1, -1), ARGUMENT);
    }

    private static void group() {
        BoardMoves b = board(60, 60, 0, 1, 1, 1, 1, 1, 1, 1, 1, 1, 1);
        due("no such part", () -> b.group(5, 0), INDEX);
        due("no such other", () -> b.group(0, 5), INDEX);
        due("part -1", () -> b.group(-1, 0), INDEX);
        due("with itself", () -> b.group(3, 3), 1);
        due("two", () -> b.group(4, 3), 2);
        due("again", () -> b.group(3, 4), 2);
        due("two more", () -> b.group(2, 1), 2);
        due("lowest of 4", () -> b.at(4, 5), 3);
        due("both become one", () -> b.group(4, 2), 4);
        for (int i = 1; i < 5; i++) {
            int part = i;
            due("lowest of " + i, () -> b.at(part, 5), 1);
        }
        due("lowest of 0", () -> b.at(0, 5), 0);
        due("with itself in a group", () -> b.group(3, 3), 4);
        due("all", () -> b.group(0, 4), 5);
        due("lowest of 4", () -> b.at(4, 5), 0);
    }

    private static void height() {
        BoardMoves b = board(60, 60, 0, 4, 4, 4, 4);
        due("no such part", () -> b.height(2, 1), INDEX);
        due("part -1", () -> b.height(-1, -1), INDEX);
        due("-1", () -> b.height(0, -1), ARGUMENT);
        due("65537", () -> b.height(0, 65537), ARGUMENT);
        due("65536", () -> b.height(0, 65536), true);
        due("at(0, 6)", () -> b.at(0, 6), 65536);
        b.keepOut(0, 0, 10, 10, 5);
        due("too high to be put there", () -> b.put(0, 9, 9, 0), false);
        due("beside the keep-out", () -> b.put(0, 10, 9, 0), true);
        due("low enough", () -> b.put(1, 2, 2, 0), true);
        due("as high as allowed", () -> b.height(1, 5), true);
        due("too high", () -> b.height(1, 6), false);
        due("as before", () -> b.at(1, 6), 5);
        due("0", () -> b.height(1, 0), true);
        due("at(1, 6)", () -> b.at(1, 6), 0);
    }

    private static void keepOut() {
        BoardMoves b = board(60, 60, 0, 4, 4);
        b.part(4, 4, 1);
        b.height(0, 3);
        b.height(1, 3);
        due("height -1", () -> b.keepOut(0, 0, 1, 1, -1), ARGUMENT);
        due("turned, height -1", () -> b.keepOut(1, 1, 0, 0, -1), ARGUMENT);
        due("turned along x", () -> b.keepOut(5, 0, 4, 9, 0), false);
        due("turned along y", () -> b.keepOut(0, 5, 9, 4, 0), false);
        due("turned both ways", () -> b.keepOut(9, 9, 0, 0, 0), false);
        due("no area along x", () -> b.keepOut(5, 0, 5, 9, 0), false);
        due("no area along y", () -> b.keepOut(0, 5, 9, 5, 0), false);
        b.put(0, 10, 10, 0);
        b.put(1, 40, 40, 0);
        due("over a part", () -> b.keepOut(13, 13, 14, 14, 2), false);
        due("refused, it is not there", () -> b.put(0, 10, 11, 0), true);
        due("as high as the part", () -> b.keepOut(13, 13, 14, 14, 3), true);
        due("over a part of the other side", () -> b.keepOut(43, 43, 44, 44, 2), false);
        due("a border in common", () -> b.keepOut(14, 0, 20, 60, 0), true);
        due("into it", () -> b.put(0, 11, 11, 0), false);
        due("the other side into it", () -> b.put(1, 12, 30, 0), false);
        due("within it", () -> b.put(1, 15, 30, 0), false);
        due("behind it", () -> b.put(1, 20, 30, 0), true);
        due("over all", () -> b.keepOut(Long.MIN_VALUE, Long.MIN_VALUE, Long.MAX_VALUE, Long.MAX_VALUE, 2), false);
        due("over all, high", () -> b.keepOut(Long.MIN_VALUE, Long.MIN_VALUE, Long.MAX_VALUE, Long.MAX_VALUE, 3), true);
        due("off the board", () -> b.keepOut(Long.MIN_VALUE, 0, 0, 60, 0), true);
        for (int i = 4; i < 10; i++) due("keep-out " + i, () -> b.keepOut(50, 50, 51, 51, Long.MAX_VALUE), true);
        due("the 11th", () -> b.keepOut(50, 50, 51, 51, 9), false);
        due("the 11th, wrong", () -> b.keepOut(50, 50, 51, 51, -1), ARGUMENT);
        due("higher than the one over all", () -> b.height(0, 4), false);
    }

    private static void clear2() {
        BoardMoves b = board(20, 20, 77, 3, 2, 3, 2, 3, 2, 3, 2);
        b.net();
        for (int i = 0; i < 4; i++) {
            b.pin(0, i, i % 3, i % 2);
            b.put(i, 4 * i, 4 * i, i);
            due("clear2() behind put", b::clear2, true);
        }
        b.near(0, 1, 9);
        b.keepOut(15, 0, 20, 5, 1);
        b.height(2, 2);
        for (int i = 0; i < 40; i++) {
            b.push(i % 4, i * 7 % 18, i * 5 % 18);
            due("clear2() behind push", b::clear2, true);
            b.run(20);
            due("clear2() behind run", b::clear2, true);
            due("wire kept up", b::wire, b.full());
        }
    }

    private static void side() {
        BoardMoves b = new BoardMoves(9, 9, 0);
        due("no such part", () -> b.side(0), INDEX);
        b.part(1, 1, 1);
        b.part(1, 1, 0);
        due("side(0)", () -> b.side(0), 1);
        due("side(1)", () -> b.side(1), 0);
        due("side(2)", () -> b.side(2), INDEX);
        due("side(-1)", () -> b.side(-1), INDEX);
    }

    public static void main(String[] args) {
        Runnable[] promises = {
            PromiseTests::newObject, PromiseTests::part, PromiseTests::put, PromiseTests::lock, PromiseTests::net,
            PromiseTests::pin, PromiseTests::push, PromiseTests::at, PromiseTests::run, () -> wire(false),
            () -> wire(true), PromiseTests::near, PromiseTests::group, PromiseTests::height, PromiseTests::keepOut,
            PromiseTests::clear2, PromiseTests::side,
        };
        for (Runnable test : promises) {
            promise++;
            test.run();
        }
        System.out.println(wrong == 0 ? "all answers are as due" : wrong + " answers are not as due");
        if (wrong != 0) System.exit(1);
    }
}
