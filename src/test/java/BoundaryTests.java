import java.math.BigInteger;
import java.util.ArrayList;
import java.util.List;
import java.util.function.Function;
import java.util.function.Predicate;
import java.util.function.Supplier;

/**
 * The sentences of the document that name a boundary case, each with a test of its own: too small, too large,
 * empty, full, a wrap-around, a refused call. A refused call is looked at from before and behind.
 */
public final class BoundaryTests {
    private static final String INDEX = "throws.IndexOutOfBoundsException";
    private static final String ARGUMENT = "throws.IllegalArgumentException";
    private static final String STATE = "throws.IllegalStateException";
    private static final int NONE = BoardMoves.NONE;
    private static final long MIN = Long.MIN_VALUE;
    private static final long MAX = Long.MAX_VALUE;
    private static final long[] NO_LENGTHS = {MIN, MIN + 1, -65536, -1, 0, 65537, 65538, 1L << 32, (1L << 32) + 1, MAX - 1, MAX};
    private static final long[] FAR = {MIN, MIN + 1, MIN + 65536, -65536, -1, 65537, 1L << 32, MAX - 65536, MAX - 1, MAX};
    private static int wrong = 0;
    private static int tests = 0;
    private static String sentence = "";

    /** A board whose calls are written down, so that others can be brought to where it is. */
    private static final class Board {
        static final int MOST_CALLS = 512;
        final long width, height, seed;
        final BoardMoves real;
        final List<Function<BoardMoves, Object>> calls = new ArrayList<>();

        Board(long width, long height, long seed) {
            this.width = width;
            this.height = height;
            this.seed = seed;
            real = new BoardMoves(width, height, seed);
        }

        private Object call(Function<BoardMoves, Object> call) {
            if (calls.size() == MOST_CALLS) throw new UnsupportedOperationException("a test must not make more calls");
            calls.add(call);
            return call.apply(real);
        }

        int part(long w, long h, int side) { return (int) call(b -> b.part(w, h, side)); }
        boolean put(int part, long x, long y, int turn) { return (boolean) call(b -> b.put(part, x, y, turn)); }
        boolean lock(int part, boolean on) { return (boolean) call(b -> b.lock(part, on)); }
        int net() { return (int) call(BoardMoves::net); }
        boolean pin(int net, int part, long dx, long dy) { return (boolean) call(b -> b.pin(net, part, dx, dy)); }
        int push(int part, long x, long y) { return (int) call(b -> b.push(part, x, y)); }
        long at(int part, int what) { return (long) call(b -> b.at(part, what)); }
        int run(long steps) { return (int) call(b -> b.run(steps)); }
        long wire() { return (long) call(BoardMoves::wire); }
        long full() { return (long) call(BoardMoves::full); }
        boolean near(int part, int other, long most) { return (boolean) call(b -> b.near(part, other, most)); }
        int group(int a, int c) { return (int) call(b -> b.group(a, c)); }
        boolean height(int part, long h) { return (boolean) call(b -> b.height(part, h)); }
        boolean keepOut(long x0, long y0, long x1, long y1, long tall) { return (boolean) call(b -> b.keepOut(x0, y0, x1, y1, tall)); }
        boolean clear2() { return (boolean) call(BoardMoves::clear2); }
        int side(int part) { return (int) call(b -> b.side(part)); }
    }

    /**
     * Looks at a board through others that had the same calls: nothing is promised beyond 512 calls, and looking
     * takes many. Each of them is asked as long as it has calls left.
     */
    private static final class Watch {
        private final Board board;
        private BoardMoves like = null;
        private int left = 0;

        Watch(Board board) {
            this.board = board;
        }

        String ask(Function<BoardMoves, Object> question) {
            if (left == 0) {
                BoardMoves next = new BoardMoves(board.width, board.height, board.seed);
                for (Function<BoardMoves, Object> call : board.calls) answer(() -> call.apply(next));
                like = next;
                left = Board.MOST_CALLS - board.calls.size();
                if (left == 0) throw new UnsupportedOperationException("a test must leave some calls");
            }
            left--;
            return answer(() -> question.apply(like));
        }
    }

    private static void test(String words, Runnable calls) {
        sentence = words;
        tests++;
        calls.run();
    }

    private static String answer(Supplier<Object> call) {
        try {
            return String.valueOf(call.get());
        } catch (RuntimeException e) {
            return "throws." + e.getClass().getSimpleName();
        }
    }

    private static void due(String call, Supplier<Object> got, Object want) {
        String answer = answer(got);
        if (!answer.equals(String.valueOf(want))) {
            wrong++;
            System.out.println("\"" + sentence + "\": " + call + " answered " + answer + ", due is " + want);
        }
    }

    /** A call that is refused, or throws: its answer, and that nothing can be seen to have changed. */
    private static void refused(Board b, String call, Supplier<Object> got, Object want) {
        String before = seen(b);
        due(call, got, want);
        due("all as before " + call, () -> seen(b), before);
    }

    /** All that can be seen of a board. */
    private static String seen(Board b) {
        Watch watch = new Watch(b);
        StringBuilder all = new StringBuilder();
        for (int i = 0; i <= 40; i++) {
            int part = i;
            String side = watch.ask(c -> c.side(part));
            if (side.startsWith("throws")) break;
            all.append(i).append(":");
            for (int k = 0; k < 7; k++) {
                int what = k;
                all.append(watch.ask(c -> c.at(part, what))).append(" ");
            }
            all.append(side).append("\n");
        }
        return all + watch.ask(BoardMoves::wire) + " " + watch.ask(BoardMoves::full) + " " + watch.ask(BoardMoves::clear2);
    }

    private static void stands(Board b, int part, long x, long y, long turn) {
        Watch watch = new Watch(b);
        String at = watch.ask(c -> c.at(part, 0)) + " " + watch.ask(c -> c.at(part, 1)) + " " + watch.ask(c -> c.at(part, 2));
        due("part " + part + " at", () -> at, x + " " + y + " " + turn);
    }

    /** A board with parts of side 0, w and h given one after the other. */
    private static Board board(long width, long height, long seed, long... sizes) {
        Board b = new Board(width, height, seed);
        for (int i = 0; i + 1 < sizes.length; i += 2) b.part(sizes[i], sizes[i + 1], 0);
        return b;
    }

    private static long[] draws(long seed, int count) {
        long[] row = new long[count];
        long s = seed;
        for (int i = 0; i < count; i++) {
            s = s * 6364136223846793005L + 1442695040888963407L;
            row[i] = s >>> 33;
        }
        return row;
    }

    /** The first seed whose draws are as asked for. */
    private static long seed(int count, Predicate<long[]> asked) {
        for (long s = 0; s < 50_000_000L; s++) if (asked.test(draws(s, count))) return s;
        throw new UnsupportedOperationException("no such seed");
    }

    /** Whether the four draws from i on move a part, of n, to x along a board of this width. */
    private static boolean moves(long[] r, int i, int n, int part, long width, long x) {
        return r[i] % n == part && r[i + 1] % 4 >= 2 && r[i + 2] % width == x;
    }

    // ---- the board, and promise 1

    private static void boards() {
        test("The BOARD is width by height: what is below is 1", () -> {
            for (long low : new long[] {MIN, MIN + 1, -65536, -1, 0, 1}) {
                Board narrow = board(low, 5, 0, 1, 5, 2, 5, 1, 6);
                due("as high as the board", () -> narrow.put(0, 0, 0, 0), true);
                refused(narrow, "wider than 1", () -> narrow.put(1, 0, 0, 0), false);
                refused(narrow, "higher than 5", () -> narrow.put(2, 0, 0, 0), false);
                Board flat = board(5, low, 0, 5, 1, 5, 2, 6, 1);
                due("as wide as the board", () -> flat.put(0, 0, 0, 0), true);
                refused(flat, "higher than 1", () -> flat.put(1, 0, 0, 0), false);
                refused(flat, "wider than 5", () -> flat.put(2, 0, 0, 0), false);
            }
        });
        test("The BOARD is width by height: what is above 65,536 is 65,536", () -> {
            for (long high : new long[] {65536, 65537, 1L << 32, MAX - 1, MAX}) {
                Board b = board(high, high, 0, 65536, 65536, 1, 1);
                due("a part as large as the board", () -> b.put(0, 0, 0, 0), true);
                refused(b, "1 beyond x", () -> b.put(0, 1, 0, 0), false);
                refused(b, "1 beyond y", () -> b.put(0, 0, 1, 0), false);
                Board c = board(high, high, 0, 1, 1);
                due("the last corner", () -> c.put(0, 65535, 65535, 0), true);
                refused(c, "behind it", () -> c.put(0, 65536, 65535, 0), false);
                refused(c, "above it", () -> c.put(0, 65535, 65536, 0), false);
            }
        });
        test("The BOARD is width by height, 1 .. 65,536", () -> {
            Board b = board(65535, 65534, 0, 65536, 1, 65535, 65534, 65535, 65535);
            refused(b, "too wide", () -> b.put(0, 0, 0, 0), false);
            refused(b, "too high", () -> b.put(0, 0, 0, 1), false);
            refused(b, "1 too high", () -> b.put(2, 0, 0, 0), false);
            due("as large as the board", () -> b.put(1, 0, 0, 0), true);
        });
        test("An empty board", () -> {
            Board b = new Board(10, 10, 5);
            for (int part : new int[] {Integer.MIN_VALUE, -1, 0, 39, 40, Integer.MAX_VALUE}) {
                due("side", () -> b.side(part), INDEX);
                due("put", () -> b.put(part, 0, 0, 0), INDEX);
                due("lock", () -> b.lock(part, true), INDEX);
                due("push", () -> b.push(part, 0, 0), INDEX);
                due("at", () -> b.at(part, 0), INDEX);
                due("near", () -> b.near(part, part, 0), INDEX);
                due("group", () -> b.group(part, part), INDEX);
                due("height", () -> b.height(part, 0), INDEX);
                due("pin", () -> b.pin(part, part, 0, 0), INDEX);
            }
            due("NONE", () -> NONE, -1);
            due("wire, full, clear2", () -> b.wire() + " " + b.full() + " " + b.clear2(), "0 0 true");
            due("run", () -> b.run(2000), 0);
            due("the first part", () -> b.part(1, 1, 0), 0);
            due("the first net", b::net, 0);
        });
    }

    // ---- promise 2

    private static void parts() {
        test("PARTS are w wide and h high (1 .. 65,536)", () -> {
            Board b = new Board(10, 10, 0);
            for (long no : NO_LENGTHS) {
                refused(b, "w " + no, () -> b.part(no, 1, 0), ARGUMENT);
                refused(b, "h " + no, () -> b.part(1, no, 0), ARGUMENT);
                refused(b, "both " + no, () -> b.part(no, no, 1), ARGUMENT);
            }
            due("1 by 1, the first number still", () -> b.part(1, 1, 0), 0);
            due("65536 by 1", () -> b.part(65536, 1, 0), 1);
            due("1 by 65536", () -> b.part(1, 65536, 1), 2);
            due("65536 by 65536", () -> b.part(65536, 65536, 1), 3);
        });
        test("PARTS are on a side (0, 1)", () -> {
            Board b = new Board(10, 10, 0);
            for (int no : new int[] {Integer.MIN_VALUE, -2, -1, 2, 3, 256, Integer.MAX_VALUE}) {
                refused(b, "side " + no, () -> b.part(1, 1, no), ARGUMENT);
            }
            due("side 1", () -> b.part(1, 1, 1), 0);
            due("side 0", () -> b.part(1, 1, 0), 1);
            due("their sides", () -> b.side(0) + " " + b.side(1), "1 0");
        });
        test("A new part, not placed, in no group, with a HEIGHT (at first 0)", () -> {
            Board b = board(10, 10, 0, 3, 2);
            b.put(0, 1, 1, 1);
            b.lock(0, true);
            b.height(0, 9);
            b.part(5, 5, 0);
            due("at", () -> seen(b), "0:1 1 1 1 1 0 9 0\n1:0 0 0 0 0 1 0 0\n0 0 true");
        });
        test("part: NONE when there are 40", () -> {
            Board b = new Board(50, 50, 0);
            for (int i = 0; i < 40; i++) {
                int number = i;
                due("its number", () -> b.part(1, 1, number % 2), number);
            }
            refused(b, "the 41st", () -> b.part(1, 1, 0), NONE);
            refused(b, "the 42nd", () -> b.part(65536, 65536, 1), NONE);
            refused(b, "the 41st, not as said", () -> b.part(0, 1, 0), ARGUMENT);
            due("part 39", () -> b.put(39, 49, 49, 3), true);
            due("part 39 at", () -> b.at(39, 0), 49);
            due("part 40", () -> b.put(40, 0, 0, 0), INDEX);
        });
    }

    // ---- promise 3

    private static void puts() {
        test("put: IndexOutOfBoundsException, when there is no such part", () -> {
            Board b = board(10, 10, 0, 1, 1, 1, 1);
            for (int no : new int[] {Integer.MIN_VALUE, -1, 2, 39, 40, Integer.MAX_VALUE}) {
                refused(b, "part " + no, () -> b.put(no, 0, 0, 0), INDEX);
                refused(b, "part " + no + ", no such turn", () -> b.put(no, 0, 0, 4), INDEX);
            }
        });
        test("put: IllegalArgumentException, when turn is not 0 .. 3", () -> {
            Board b = board(10, 10, 0, 1, 1);
            for (int no : new int[] {Integer.MIN_VALUE, -4, -1, 4, 5, Integer.MAX_VALUE}) {
                refused(b, "turn " + no, () -> b.put(0, 0, 0, no), ARGUMENT);
                refused(b, "turn " + no + ", off the board", () -> b.put(0, -1, 0, no), ARGUMENT);
            }
            for (int turn = 0; turn < 4; turn++) {
                int now = turn;
                due("turn " + turn, () -> b.put(0, 2, 3, now), true);
                stands(b, 0, 2, 3, turn);
            }
        });
        test("one takes the rectangle from there, w by h, h by w for odd turns; each placed part lies on the board", () -> {
            for (int turn = 0; turn < 4; turn++) {
                int now = turn;
                long lastX = turn % 2 == 0 ? 20 - 5 : 20 - 3;
                long lastY = turn % 2 == 0 ? 11 - 3 : 11 - 5;
                Board b = board(20, 11, 0, 5, 3);
                refused(b, "not placed, off the board", () -> b.put(0, lastX + 1, 0, now), false);
                due("at 0, 0", () -> b.put(0, 0, 0, now), true);
                refused(b, "x -1", () -> b.put(0, -1, 0, now), false);
                refused(b, "y -1", () -> b.put(0, 0, -1, now), false);
                due("the last corner", () -> b.put(0, lastX, lastY, now), true);
                refused(b, "x beyond", () -> b.put(0, lastX + 1, lastY, now), false);
                refused(b, "y beyond", () -> b.put(0, lastX, lastY + 1, now), false);
                stands(b, 0, lastX, lastY, turn);
            }
        });
        test("each placed part lies on the board: x and y that wrap around", () -> {
            Board b = board(65536, 65536, 0, 65536, 3, 2, 2);
            for (int turn = 0; turn < 4; turn++) {
                int now = turn;
                for (long far : FAR) {
                    refused(b, "x " + far, () -> b.put(0, far, 0, now), false);
                    refused(b, "y " + far, () -> b.put(0, 0, far, now), false);
                    refused(b, "both " + far, () -> b.put(0, far, far, now), false);
                }
            }
            b.put(0, 0, 9, 0);
            for (long far : FAR) {
                refused(b, "placed, x " + far, () -> b.put(0, far, 9, 0), false);
                refused(b, "placed, y " + far, () -> b.put(0, 0, far, 0), false);
            }
        });
        test("no two of one side overlap (that is have more than a border in common)", () -> {
            Board b = board(30, 30, 0, 4, 2, 3, 5);
            b.part(3, 5, 1);
            b.put(0, 10, 10, 0);
            for (long x = 6; x <= 15; x++) {
                for (long y = 4; y <= 13; y++) {
                    long px = x, py = y;
                    boolean free = x <= 7 || x >= 14 || y <= 5 || y >= 12;
                    if (free) due("free at " + x + " " + y, () -> b.put(1, px, py, 0), true);
                    else refused(b, "overlapping at " + x + " " + y, () -> b.put(1, px, py, 0), false);
                    due("another side at " + x + " " + y, () -> b.put(2, px, py, 2), true);
                }
            }
        });
        test("no two of one side overlap: one within the other, over it, and where it was itself", () -> {
            Board b = board(30, 30, 0, 9, 9, 1, 1, 30, 30);
            b.put(0, 10, 10, 0);
            refused(b, "within", () -> b.put(1, 14, 14, 0), false);
            refused(b, "in its corner", () -> b.put(1, 18, 18, 0), false);
            due("at its corner", () -> b.put(1, 19, 19, 0), true);
            refused(b, "over both", () -> b.put(2, 0, 0, 0), false);
            due("where it was itself, by 1", () -> b.put(0, 9, 10, 1), true);
        });
        test("a part is moved with its group: all placed ones of it go the same way", () -> {
            Board b = board(20, 20, 0, 2, 2, 2, 2, 2, 2, 2, 2);
            b.group(0, 1);
            b.group(1, 2);
            b.put(1, 2, 0, 0);
            b.put(0, 0, 0, 0);
            b.put(3, 18, 18, 0);
            due("over each other's old places", () -> b.put(0, 2, 0, 0), true);
            stands(b, 0, 2, 0, 0);
            stands(b, 1, 4, 0, 0);
            due("one that is not placed stays so", () -> b.at(2, 3), 0);
            stands(b, 2, 0, 0, 0);
            due("its mate at the border", () -> b.put(0, 16, 0, 0), true);
            refused(b, "its mate off the board along x", () -> b.put(0, 17, 0, 0), false);
            due("both at the border", () -> b.put(1, 18, 16, 0), true);
            refused(b, "its mate into another one", () -> b.put(0, 16, 17, 0), false);
            refused(b, "both off the board along y", () -> b.put(0, 16, 19, 0), false);
            due("the third one is placed", () -> b.put(2, 0, 0, 0), true);
            stands(b, 0, 16, 16, 0);
            refused(b, "the third one off the board", () -> b.put(0, 15, 16, 0), false);
        });
        putTurns();
        putLocked();
    }

    private static void putTurns() {
        test("put: when another one of its group is placed, turn must be as it is, if it is placed already", () -> {
            for (int turn = 0; turn < 4; turn++) {
                int first = turn;
                Board b = board(20, 20, 0, 2, 1, 2, 1);
                b.group(0, 1);
                due("the first of the group", () -> b.put(0, 5, 5, (first + 2) % 4), true);
                due("no other one is placed: any turn", () -> b.put(0, 5, 6, first), true);
                due("not placed already: any turn", () -> b.put(1, 9, 9, 3 - first), true);
                for (int other = 0; other < 4; other++) {
                    int now = other;
                    if (other == first) due("the same turn", () -> b.put(0, 5, 5, now), true);
                    else refused(b, "another turn", () -> b.put(0, 5, 5, now), false);
                    if (other != 3 - first) refused(b, "another turn of the mate", () -> b.put(1, 9, 8, now), false);
                }
                stands(b, 1, 9, 8, 3 - turn);
            }
        });
        test("put: a part that is turned may come to overlap, or to lie off the board", () -> {
            Board b = board(9, 9, 0, 4, 2, 1, 1);
            b.put(0, 5, 7, 0);
            b.put(1, 4, 4, 0);
            refused(b, "off the board", () -> b.put(0, 5, 7, 1), false);
            due("beside the other one", () -> b.put(0, 3, 5, 3), true);
            refused(b, "over the other one", () -> b.put(0, 3, 3, 2), false);
            due("turned back", () -> b.put(0, 3, 5, 2), true);
            stands(b, 0, 3, 5, 2);
        });
    }

    // ---- promise 4

    private static void putLocked() {
        test("LOCKED parts that are placed do not move: what would move one (or turn it) is refused", () -> {
            Board b = board(20, 20, 0, 2, 2, 2, 2, 2, 2);
            b.lock(0, true);
            due("not placed: it is placed", () -> b.put(0, 5, 5, 1), true);
            refused(b, "moved along x", () -> b.put(0, 6, 5, 1), false);
            refused(b, "moved along y", () -> b.put(0, 5, 4, 1), false);
            for (int turn : new int[] {0, 2, 3}) refused(b, "turned", () -> b.put(0, 5, 5, turn), false);
            due("put where it is", () -> b.put(0, 5, 5, 1), true);
            refused(b, "pushed", () -> b.push(0, 5, 6), NONE);
            due("pushed to where it is", () -> b.push(0, 5, 5), 0);
            b.group(1, 0);
            due("a new one of its group is placed", () -> b.put(1, 9, 9, 0), true);
            refused(b, "its group is moved", () -> b.put(1, 9, 10, 0), false);
            refused(b, "its group is pushed", () -> b.push(1, 8, 9), NONE);
            b.lock(0, false);
            b.lock(2, true);
            b.group(2, 0);
            due("the locked one of the group is not placed", () -> b.put(1, 9, 10, 0), true);
            stands(b, 0, 5, 6, 1);
            due("then it is", () -> b.put(2, 0, 0, 0), true);
            refused(b, "then it holds the group", () -> b.put(1, 9, 9, 0), false);
        });
        test("LOCKED, or not: whether that is another one than before", () -> {
            Board b = board(20, 20, 0, 2, 2);
            for (int no : new int[] {Integer.MIN_VALUE, -1, 1, 40, Integer.MAX_VALUE}) {
                refused(b, "part " + no, () -> b.lock(no, true), INDEX);
                refused(b, "part " + no, () -> b.lock(no, false), INDEX);
            }
            refused(b, "not locked before", () -> b.lock(0, false), false);
            due("another one", () -> b.lock(0, true), true);
            due("at 4", () -> b.at(0, 4), 1);
            refused(b, "not another one", () -> b.lock(0, true), false);
            due("another one again", () -> b.lock(0, false), true);
            due("at 4", () -> b.at(0, 4), 0);
        });
    }

    // ---- promises 5 and 6, 10 and 11

    private static void nets() {
        test("net: NONE when there are 40", () -> {
            Board b = board(20, 20, 0, 1, 1);
            for (int i = 0; i < 40; i++) due("its number", b::net, i);
            due("the 41st", b::net, NONE);
            due("the 42nd", b::net, NONE);
            due("a pin of net 39", () -> b.pin(39, 0, 0, 0), true);
            refused(b, "a pin of net 40", () -> b.pin(40, 0, 0, 0), INDEX);
        });
        test("pin: IndexOutOfBoundsException, when there is no such net or part", () -> {
            Board b = board(20, 20, 0, 1, 1, 1, 1);
            b.net();
            b.net();
            b.net();
            for (int no : new int[] {Integer.MIN_VALUE, -1, 3, 39, 40, Integer.MAX_VALUE}) {
                refused(b, "net " + no, () -> b.pin(no, 0, 0, 0), INDEX);
                refused(b, "part " + no, () -> b.pin(0, no, 0, 0), INDEX);
                refused(b, "part " + no + ", not in it", () -> b.pin(0, no, -1, 0), INDEX);
            }
            refused(b, "part 2, as many as nets", () -> b.pin(2, 2, 0, 0), INDEX);
        });
        test("pin: IllegalArgumentException, when it does not lie in the part (0 .. w, 0 .. h, when not turned)", () -> {
            for (int turn = 0; turn < 4; turn++) {
                Board b = board(20, 20, 0, 5, 3);
                b.net();
                b.put(0, 2, 2, turn);
                for (long no : FAR) {
                    refused(b, "dx " + no, () -> b.pin(0, 0, no, 0), ARGUMENT);
                    refused(b, "dy " + no, () -> b.pin(0, 0, 0, no), ARGUMENT);
                }
                refused(b, "dx 6", () -> b.pin(0, 0, 6, 0), ARGUMENT);
                refused(b, "dy 4", () -> b.pin(0, 0, 0, 4), ARGUMENT);
                due("0, 0", () -> b.pin(0, 0, 0, 0), true);
                due("w, 0", () -> b.pin(0, 0, 5, 0), true);
                due("0, h", () -> b.pin(0, 0, 0, 3), true);
                due("w, h", () -> b.pin(0, 0, 5, 3), true);
                due("wire", b::wire, 8);
                due("full", b::full, 8);
            }
        });
        test("NETS have PINS, 120 in all: false when there are 120", () -> {
            Board b = board(20, 20, 0, 4, 4);
            for (int i = 0; i < 3; i++) b.net();
            b.put(0, 0, 0, 0);
            refused(b, "not in the part, so not counted", () -> b.pin(0, 0, 5, 5), ARGUMENT);
            for (int i = 0; i < 120; i++) {
                int net = i % 2;
                due("pin " + i, () -> b.pin(net, 0, 1, 1), true);
            }
            for (int net = 0; net < 3; net++) {
                int now = net;
                refused(b, "the 121st", () -> b.pin(now, 0, 4, 4), false);
            }
            refused(b, "the 121st, not in the part", () -> b.pin(0, 0, 5, 4), ARGUMENT);
            refused(b, "the 121st, no such part", () -> b.pin(0, 1, 0, 0), INDEX);
            due("a net behind them", b::net, 3);
        });
        wires();
    }

    private static void wires() {
        test("turned once, a pin is at h - dy, dx; twice, at w - dx, h - dy; three times, at dy, w - dx", () -> {
            long[] px = {10 + 7, 10 + 3 - 1, 10 + 9 - 7, 10 + 1};
            long[] py = {20 + 1, 20 + 7, 20 + 3 - 1, 20 + 9 - 7};
            for (int turn = 0; turn < 4; turn++) {
                Board b = board(50, 50, 0, 9, 3, 1, 1);
                b.net();
                b.pin(0, 0, 7, 1);
                b.pin(0, 1, 0, 0);
                b.put(0, 10, 20, turn);
                b.put(1, 0, 0, 0);
                due("wire, turned " + turn, b::wire, px[turn] + py[turn]);
                due("full, turned " + turn, b::full, px[turn] + py[turn]);
            }
        });
        test("WIRE is the sum, over all nets, of how far their placed parts' pins reach: none, one, not placed", () -> {
            Board b = board(50, 50, 0, 1, 1, 1, 1);
            due("no net", () -> b.wire() + " " + b.full(), "0 0");
            b.net();
            b.net();
            due("nets without pins", () -> b.wire() + " " + b.full(), "0 0");
            b.pin(0, 0, 0, 0);
            b.pin(0, 1, 1, 1);
            due("pins of parts not placed", () -> b.wire() + " " + b.full(), "0 0");
            b.put(0, 40, 30, 0);
            due("one placed: not from 0", () -> b.wire() + " " + b.full(), "0 0");
            b.put(1, 0, 0, 0);
            due("both placed", () -> b.wire() + " " + b.full(), "68 68");
            b.pin(1, 0, 1, 0);
            due("a net with one pin", () -> b.wire() + " " + b.full(), "68 68");
            b.pin(1, 0, 1, 0);
            due("the same pin again", () -> b.wire() + " " + b.full(), "68 68");
            b.pin(1, 1, 0, 0);
            due("a second net over the same parts", () -> b.wire() + " " + b.full(), (68 + 41 + 30) + " " + (68 + 41 + 30));
        });
        test("WIRE: the longest there is", () -> {
            Board b = board(MAX, MAX, 7, 1, 1, 1, 1);
            b.put(0, 0, 0, 0);
            b.put(1, 65535, 65535, 0);
            for (int i = 0; i < 40; i++) {
                int net = b.net();
                b.pin(net, 0, 0, 0);
                b.pin(net, 1, 1, 1);
            }
            long most = 40L * 2 * 65536;
            due("wire", b::wire, most);
            due("full", b::full, most);
            b.run(2000);
            due("behind a run", () -> b.wire() <= most && b.wire() == b.full(), true);
        });
    }

    // ---- promise 7

    private static void pushes() {
        test("push: IndexOutOfBoundsException, when there is no such part; IllegalStateException, when it is not placed", () -> {
            Board b = board(20, 20, 0, 2, 2, 2, 2);
            b.put(0, 0, 0, 0);
            for (int no : new int[] {Integer.MIN_VALUE, -1, 2, 40, Integer.MAX_VALUE}) {
                refused(b, "part " + no, () -> b.push(no, 5, 5), INDEX);
            }
            refused(b, "not placed", () -> b.push(1, 5, 5), STATE);
            refused(b, "not placed, off the board", () -> b.push(1, -5, MAX), STATE);
            b.lock(1, true);
            b.group(0, 1);
            refused(b, "locked, not placed, its mate is", () -> b.push(1, 5, 5), STATE);
        });
        test("push: a part goes to x, y that are off the board, or wrap around: refused", () -> {
            Board b = board(20, 30, 0, 4, 2);
            b.put(0, 8, 8, 1);
            for (long far : FAR) {
                refused(b, "x " + far, () -> b.push(0, far, 8), NONE);
                refused(b, "y " + far, () -> b.push(0, 8, far), NONE);
                refused(b, "both " + far, () -> b.push(0, far, far), NONE);
            }
            due("the last corner", () -> b.push(0, 18, 26), 0);
            refused(b, "x beyond", () -> b.push(0, 19, 26), NONE);
            refused(b, "y beyond", () -> b.push(0, 18, 27), NONE);
            due("the first corner", () -> b.push(0, 0, 0), 0);
            stands(b, 0, 0, 0, 1);
        });
        test("it goes along x if it goes at least as far along x as along y, else along y; ON means this way", () -> {
            for (long sx = -1; sx <= 1; sx += 2) {
                for (long sy = -1; sy <= 1; sy += 2) {
                    for (long far = 9; far <= 11; far++) {
                        Board b = board(60, 60, 0, 4, 4, 4, 4);
                        b.put(0, 30, 30, 0);
                        b.put(1, 30 + 12 * sx, 30 + 12 * sy, 0);
                        long x = 30 + 10 * sx, y = 30 + far * sy;
                        due("by 10 and " + far, () -> b.push(0, x, y), 1);
                        if (far <= 10) stands(b, 1, x + 4 * sx, 30 + 12 * sy, 0);
                        else stands(b, 1, 30 + 12 * sx, y + 4 * sy, 0);
                        stands(b, 0, x, y, 0);
                    }
                }
            }
        });
        test("ON means this way: by 1 alone, all four ways", () -> {
            for (int way = 0; way < 4; way++) {
                long sx = way == 0 ? 1 : way == 1 ? -1 : 0, sy = way == 2 ? 1 : way == 3 ? -1 : 0;
                Board b = board(30, 30, 0, 4, 4, 4, 4);
                b.put(0, 12, 12, 0);
                b.put(1, 12 + 4 * sx, 12 + 4 * sy, 0);
                due("way " + way, () -> b.push(0, 12 + sx, 12 + sy), 1);
                stands(b, 1, 12 + 5 * sx, 12 + 5 * sy, 0);
            }
        });
        test("while two parts of one side overlap: not with a border in common, nor another side", () -> {
            Board b = board(20, 20, 0, 4, 4, 4, 4, 4, 4);
            b.part(4, 4, 1);
            b.put(0, 0, 4, 0);
            b.put(1, 8, 4, 0);
            b.put(2, 4, 0, 0);
            b.put(3, 4, 4, 0);
            due("borders in common", () -> b.push(0, 4, 4), 0);
            due("1 farther, until they have just a border in common", () -> b.push(0, 5, 4), 1);
            stands(b, 1, 9, 4, 0);
            stands(b, 2, 4, 0, 0);
            stands(b, 3, 4, 4, 0);
        });
        pushOrder();
        pushRefusals();
    }

    private static void pushOrder() {
        test("of the first such two (by the lower number, then the other one)", () -> {
            // 3 drives 1 over 2 before it comes to 2: were 2 moved first, 1 would stay behind it.
            Board b = board(40, 1, 0, 1, 1, 2, 1, 6, 1, 9, 1);
            b.put(3, 0, 0, 0);
            b.put(1, 14, 0, 0);
            b.put(2, 16, 0, 0);
            due("1 and 2, then 2 and 3", () -> b.push(3, 11, 0), 2);
            stands(b, 1, 26, 0, 0);
            stands(b, 2, 20, 0, 0);
            // 0 has the lower number: it comes to 2 before 1, driven over 2, is looked at.
            Board c = board(40, 1, 0, 9, 1, 2, 1, 6, 1);
            c.put(0, 0, 0, 0);
            c.put(1, 14, 0, 0);
            c.put(2, 16, 0, 0);
            due("0 and 1, 0 and 2, then 1 and 2", () -> c.push(0, 11, 0), 2);
            stands(c, 1, 20, 0, 0);
            stands(c, 2, 22, 0, 0);
        });
        test("one is moved ON: not the pushed one or one of its group", () -> {
            Board b = board(30, 30, 0, 2, 2, 6, 2, 2, 2, 6, 2);
            b.put(0, 0, 0, 0);
            b.put(1, 3, 0, 0);
            b.put(2, 0, 9, 0);
            b.put(3, 3, 9, 0);
            b.group(0, 2);
            due("both of the group are beyond the others' beginnings", () -> b.push(2, 5, 9), 3);
            stands(b, 0, 5, 0, 0);
            stands(b, 1, 7, 0, 0);
            stands(b, 2, 5, 9, 0);
            stands(b, 3, 7, 9, 0);
        });
        test("otherwise that one whose rectangle begins farther ON", () -> {
            // 1 is driven over 2, so far that it begins behind it (stays) or beyond it (goes itself).
            for (long to = 4; to <= 6; to++) {
                long x = to;
                Board b = board(60, 4, 0, 6, 1, 2, 2, 8, 1);
                b.put(0, 0, 0, 0);
                b.put(1, 9, 0, 0);
                b.put(2, 11, 1, 0);
                due("to " + to, () -> b.push(0, x, 0), to == 6 ? 1 : 2);
                stands(b, 1, to == 6 ? 19 : 6 + to, 0, 0);
                stands(b, 2, to == 6 ? 11 : to == 5 ? 13 : 12, 1, 0);
            }
        });
        test("of the same the one with the higher number", () -> {
            for (int low = 1; low <= 2; low++) {
                int one = low, two = 3 - low;
                Board b = board(60, 60, 0, 2, 6, 2, 2, 2, 2);
                b.put(0, 10, 0, 0);
                b.put(one, 10, 10, 0);
                b.put(two, 10, 12, 0);
                due("two that begin the same", () -> b.push(0, 10, 8), 2);
                stands(b, 1, 10, 14, 0);
                stands(b, 2, 10, 16, 0);
            }
        });
        test("otherwise that one whose rectangle begins farther ON, of the same the one with the higher number: all four ways", () -> {
            for (int way = 0; way < 4; way++) {
                for (int driven = 1; driven <= 2; driven++) {
                    for (long to = 11; to <= 13; to++) drive(way, driven, to);
                }
            }
        });
        test("its group goes along", () -> {
            Board b = board(30, 30, 0, 2, 2, 2, 2, 2, 2, 2, 2, 2, 2);
            b.put(0, 0, 0, 0);
            b.put(1, 4, 0, 0);
            b.put(2, 4, 20, 0);
            b.put(3, 8, 20, 0);
            b.group(1, 2);
            b.group(2, 4);
            due("its mate pushes another one", () -> b.push(0, 5, 0), 3);
            stands(b, 2, 7, 20, 0);
            stands(b, 3, 9, 20, 0);
            due("one of it that is not placed stays so", () -> b.at(4, 0) + b.at(4, 3), 0);
        });
    }

    /** Part 0 drives one over another, both 4 long, so that it begins at 'to', where the other one begins at 12. */
    private static void drive(int way, int driven, long to) {
        int other = 3 - driven;
        Board b = driven == 1 ? board(60, 60, 0, 6, 1, 4, 2, 4, 1) : board(60, 60, 0, 6, 1, 4, 1, 4, 2);
        int turn = way < 2 ? 0 : 1;
        b.put(0, spotX(way, 0, 6, 7), spotY(way, 0, 6, 7), turn);
        b.put(driven, spotX(way, 8, 4, 7), spotY(way, 8, 4, 7), turn);
        b.put(other, spotX(way, 12, 4, 8), spotY(way, 12, 4, 8), turn);
        boolean otherGoes = to < 12 || to == 12 && other == 2;
        due("way " + way + ", " + driven + " to " + to, () -> b.push(0, spotX(way, to - 6, 6, 7), spotY(way, to - 6, 6, 7)), otherGoes ? 2 : 1);
        long drivenAt = otherGoes ? to : 16;
        long otherAt = otherGoes ? to + 4 : 12;
        stands(b, driven, spotX(way, drivenAt, 4, 7), spotY(way, drivenAt, 4, 7), turn);
        stands(b, other, spotX(way, otherAt, 4, 8), spotY(way, otherAt, 4, 8), turn);
    }

    /** The corner of what begins at 'along' on one of four ways over a board of 60 by 60. */
    private static long spotX(int way, long along, long length, long across) {
        return way == 0 ? along : way == 1 ? 60 - along - length : across;
    }

    private static long spotY(int way, long along, long length, long across) {
        return way == 2 ? along : way == 3 ? 60 - along - length : across;
    }

    private static void pushRefusals() {
        test("push is refused if in the end not all stands well: off the board", () -> {
            Board b = board(12, 12, 0, 3, 1, 3, 1, 3, 1);
            b.put(0, 0, 0, 0);
            b.put(1, 4, 0, 0);
            b.put(2, 8, 0, 0);
            due("up to the border", () -> b.push(0, 3, 0), 2);
            refused(b, "beyond it", () -> b.push(0, 4, 0), NONE);
            refused(b, "all ways back", () -> b.push(2, 2, 0), NONE);
        });
        test("push is refused if in the end not all stands well: a keep-out", () -> {
            Board b = board(30, 30, 0, 2, 2, 2, 2);
            b.put(0, 0, 0, 0);
            b.put(1, 4, 0, 0);
            b.height(1, 3);
            b.keepOut(7, 1, 8, 2, 2);
            due("up to it", () -> b.push(0, 3, 0), 1);
            refused(b, "into it", () -> b.push(0, 4, 0), NONE);
            refused(b, "within it", () -> b.push(0, 5, 0), NONE);
            due("over it", () -> b.push(0, 6, 0), 1);
            b.height(0, 2);
            due("as high as allowed", () -> b.push(0, 6, 1), 0);
        });
        test("push is refused if in the end not all stands well: a NEAR pair", () -> {
            Board b = board(30, 30, 0, 2, 2, 2, 2, 2, 2);
            b.put(0, 0, 0, 0);
            b.put(1, 2, 0, 0);
            b.put(2, 2, 2, 0);
            b.near(2, 1, 3);
            due("near enough", () -> b.push(0, 3, 0), 1);
            due("as far as allowed", () -> b.push(0, 5, 0), 1);
            stands(b, 1, 7, 0, 0);
            refused(b, "too far", () -> b.push(0, 6, 0), NONE);
            refused(b, "itself too far", () -> b.push(1, 8, 0), NONE);
        });
        test("push is refused if a locked one was moved", () -> {
            Board b = board(30, 30, 0, 2, 2, 2, 2, 2, 2);
            b.put(0, 0, 0, 0);
            b.put(1, 4, 0, 0);
            b.put(2, 8, 8, 0);
            b.lock(1, true);
            due("up to it", () -> b.push(0, 2, 0), 0);
            refused(b, "into it", () -> b.push(0, 3, 0), NONE);
            b.lock(1, false);
            b.lock(2, true);
            b.group(1, 2);
            refused(b, "into its mate", () -> b.push(0, 3, 0), NONE);
            b.lock(2, false);
            due("then not", () -> b.push(0, 3, 0), 2);
            b.lock(0, true);
            refused(b, "the pushed one is locked", () -> b.push(0, 2, 0), NONE);
        });
        test("push: after 200 such moves it is refused", () -> {
            row("199 moves", new long[] {5, 5, 5, 9, 8, 6, 8, 6, 8, 1, 2, 7, 1, 2, 8, 1, 8, 3, 5, 8, 6, 4, 8, 4},
                new long[] {102, 123, 73, 51, 78, 60, 42, 36, 94, 50, 87, 66, 86, 16, 115, 93, 107, 29, 18, 0, 23, 32, 8, 89}, 19, 14, 23);
            row("200 moves", new long[] {1, 4, 2, 2, 9, 9, 5, 8, 9, 1, 7, 3, 4, 1, 9, 9, 3, 2, 1, 8, 5, 6, 9, 4},
                new long[] {62, 88, 111, 25, 14, 0, 9, 46, 79, 117, 72, 118, 113, 101, 102, 92, 59, 23, 54, 27, 41, 35, 63, 55}, 5, 21, NONE);
            row("201 moves", new long[] {3, 9, 1, 7, 7, 5, 3, 2, 3, 9, 9, 1, 1, 1, 8, 9, 2, 7, 7, 8, 8, 4, 5, 4},
                new long[] {28, 72, 39, 90, 105, 40, 116, 64, 61, 45, 0, 81, 71, 31, 18, 9, 26, 54, 32, 82, 97, 112, 66, 119}, 10, 22, NONE);
        });
    }

    /** Parts in a row with room enough behind it: only the number of moves can refuse the push. */
    private static void row(String what, long[] w, long[] x, int pushed, long to, int want) {
        Board b = new Board(65536, 1, 0);
        for (int i = 0; i < w.length; i++) {
            b.part(w[i], 1, 0);
            b.put(i, x[i], 0, 0);
        }
        if (want == NONE) refused(b, what, () -> b.push(pushed, to, 0), NONE);
        else due(what, () -> b.push(pushed, to, 0), want);
    }

    // ---- promise 8

    private static void ats() {
        test("at: IndexOutOfBoundsException, when there is no such part, or what", () -> {
            Board b = board(20, 20, 0, 2, 2);
            for (int no : new int[] {Integer.MIN_VALUE, -1, 7, 8, 40, Integer.MAX_VALUE}) {
                due("what " + no, () -> b.at(0, no), INDEX);
                due("part " + no, () -> b.at(no, 0), INDEX);
                due("both " + no, () -> b.at(no, no), INDEX);
            }
            due("part 1", () -> b.at(1, 0), INDEX);
        });
        test("at: x (what 0), y (1), its TURN (2; all 0 when not placed)", () -> {
            Board b = board(20, 20, 0, 2, 2, 2, 2);
            b.put(0, 5, 6, 3);
            refused(b, "a put that is refused", () -> b.put(1, 5, 7, 2), false);
            due("not placed", () -> b.at(1, 0) + " " + b.at(1, 1) + " " + b.at(1, 2) + " " + b.at(1, 3), "0 0 0 0");
            due("placed", () -> b.at(0, 0) + " " + b.at(0, 1) + " " + b.at(0, 2) + " " + b.at(0, 3), "5 6 3 1");
        });
        test("at: the lowest part of its group (5), its HEIGHT (6)", () -> {
            Board b = board(20, 20, 0, 2, 2, 2, 2, 2, 2, 2, 2);
            b.group(3, 2);
            due("of 2 and 3", () -> b.at(2, 5) + " " + b.at(3, 5), "2 2");
            b.group(3, 1);
            due("of 1, 2 and 3", () -> b.at(1, 5) + " " + b.at(2, 5) + " " + b.at(3, 5), "1 1 1");
            due("of none", () -> b.at(0, 5), 0);
            b.height(3, 65536);
            due("its height alone", () -> b.at(2, 6) + " " + b.at(3, 6), "0 65536");
        });
    }

    // ---- promise 9

    private static void runs() {
        test("run: IllegalArgumentException, when they are not 0 .. 2,000", () -> {
            Board b = line(40, 5, 30);
            Board same = line(40, 5, 30);
            for (long no : new long[] {MIN, MIN + 1, -2000, -1, 2001, 2002, (1L << 32) + 1, MAX}) {
                refused(b, "steps " + no, () -> b.run(no), ARGUMENT);
            }
            refused(b, "no steps", () -> b.run(0), 0);
            due("2,000 steps, with the draws of a new board", () -> b.run(2000), same.run(2000));
            due("where it led", () -> seen(b), seen(same));
            Board empty = new Board(9, 9, 9);
            due("-1, without parts", () -> empty.run(-1), ARGUMENT);
            due("2001, without parts", () -> empty.run(2001), ARGUMENT);
        });
        test("s becomes s * 6364136223846793005 + 1442695040888963407 (which wraps), shifted right by 33, without sign", () -> {
            for (long s : new long[] {0, 1, -1, MIN, MAX, 42, -987654321987654321L, 1L << 33, -(1L << 33)}) {
                long from = movesOne(s);
                BigInteger[] r = wrapped(from);
                Board b = board(65536, 65536, from, 1, 1, 1, 1);
                wireUp(b, 65535);
                b.put(1, 65535, 65535, 0);
                due("a step", () -> b.run(1), 1);
                stands(b, 1, r[2].longValue() % 65536, r[3].longValue() % 65536, 0);
            }
        });
        test("s is the seed when the board is made (a later run goes on with it)", () -> {
            long s = seed(8, r -> moves(r, 0, 2, 1, 64, 40) && moves(r, 4, 2, 1, 64, 20));
            Board b = line(64, s, 60);
            due("the first run", () -> b.run(1), 1);
            stands(b, 1, 40, 0, 0);
            due("the later run", () -> b.run(1), 1);
            stands(b, 1, 20, 0, 0);
        });
        test("without any part nothing is drawn", () -> {
            long s = seed(4, r -> moves(r, 0, 2, 1, 64, 20));
            Board b = new Board(64, 1, s);
            due("without parts", () -> b.run(2000), 0);
            b.part(1, 1, 0);
            b.part(1, 1, 0);
            wireUp(b, 60);
            due("with parts", () -> b.run(1), 1);
            stands(b, 1, 20, 0, 0);
        });
        test("a part that is not placed or locked does nothing (the step draws its four numbers all the same)", () -> {
            long s = seed(8, r -> r[0] % 3 == 2 && moves(r, 4, 3, 1, 64, 20));
            for (boolean held : new boolean[] {false, true}) {
                Board b = board(64, 1, s, 1, 1, 1, 1, 1, 1);
                wireUp(b, 60);
                if (held) b.put(2, 50, 0, 0);
                b.lock(2, held);
                due("locked: " + held, () -> b.run(2), 1);
                stands(b, 1, 20, 0, 0);
                stands(b, 2, held ? 50 : 0, 0, 0);
            }
        });
        runMoves();
        runTurns();
        runSwaps();
        runAllowance();
        runLeast();
    }

    /** Two parts of 1 by 1 on a board of height 1, wired from corner to corner: part 0 at 0, the other one at x. */
    private static Board line(long width, long seed, long x) {
        Board b = board(width, 1, seed, 1, 1, 1, 1);
        wireUp(b, x);
        return b;
    }

    private static void wireUp(Board b, long x) {
        b.put(0, 0, 0, 0);
        b.put(1, x, 0, 0);
        int net = b.net();
        b.pin(net, 0, 0, 0);
        b.pin(net, 1, 0, 0);
    }

    /** Four draws by numbers that cannot wrap of themselves. */
    private static BigInteger[] wrapped(long seed) {
        BigInteger all = BigInteger.ONE.shiftLeft(64);
        BigInteger s = BigInteger.valueOf(seed).mod(all);
        BigInteger[] row = new BigInteger[4];
        for (int i = 0; i < 4; i++) {
            s = s.multiply(new BigInteger("6364136223846793005")).add(new BigInteger("1442695040888963407")).mod(all);
            row[i] = s.shiftRight(33);
        }
        return row;
    }

    /** The first seed from s on whose step moves part 1 of two. */
    private static long movesOne(long s) {
        for (long next = s; true; next++) {
            BigInteger[] r = wrapped(next);
            if (r[0].longValue() % 2 == 1 && r[1].longValue() % 4 >= 2) return next;
        }
    }

    private static void runMoves() {
        test("else it is moved to c mod width, d mod height, on boards of 1 and of 65,536, too", () -> {
            for (long s = 0; s < 20; s++) {
                Board b = board(0, -7, s, 1, 1);
                b.put(0, 0, 0, 0);
                due("on a board of 1 by 1 only turns change something", () -> b.run(100), turned(s));
            }
            long s = seed(4, r -> r[0] % 2 == 1 && r[1] % 4 == 3 && r[2] % 65536 < 65535 && r[3] % 65536 < 65535 && r[2] > 65536);
            long[] r = draws(s, 4);
            Board b = board(MAX, MAX, s, 1, 1, 1, 1);
            wireUp(b, 65535);
            b.put(1, 65535, 65535, 0);
            due("on the largest board", () -> b.run(1), 1);
            stands(b, 1, r[2] % 65536, r[3] % 65536, 0);
        });
        test("it is moved: at the border, off the board, into another one, to where it is", () -> {
            long s = seed(4, r -> moves(r, 0, 3, 1, 20, 17) && r[3] % 10 == 6);
            for (long w = 3; w <= 4; w++) {
                for (long h = 4; h <= 5; h++) {
                    Board b = board(20, 10, s, 1, 1, w, h, 1, 1);
                    b.put(1, 0, 0, 0);
                    boolean fits = w == 3 && h == 4;
                    if (fits) due("at the border", () -> b.run(1), 1);
                    else refused(b, "off the board", () -> b.run(1), 0);
                }
            }
            for (long x = 15; x <= 16; x++) {
                Board b = board(20, 10, s, 1, 1, 3, 4, 2, 2);
                b.put(1, 0, 0, 0);
                b.put(2, x, 8, 0);
                int want = x == 15 ? 1 : 0;
                due("beside another one, into it", () -> b.run(1), want);
            }
            Board b = board(20, 10, s, 1, 1, 3, 4, 1, 1);
            b.put(1, 17, 6, 0);
            refused(b, "to where it is", () -> b.run(1), 0);
        });
        test("all placed ones of the group go the same way; a step that would move a locked one does nothing", () -> {
            long s = seed(4, r -> moves(r, 0, 4, 1, 64, 20));
            for (int kind = 0; kind < 4; kind++) {
                Board b = board(64, 1, s, 1, 1, 1, 1, 1, 1, 1, 1);
                wireUp(b, 60);
                b.put(2, kind == 1 ? 30 : 62, 0, 0);
                b.group(1, 2);
                b.group(3, 1);
                if (kind == 2) b.lock(2, true);
                if (kind == 3) b.lock(3, true);
                int want = kind == 1 || kind == 2 ? 0 : 1;
                if (want == 0) refused(b, "kind " + kind, () -> b.run(1), 0);
                else due("kind " + kind, () -> b.run(1), 1);
                stands(b, 1, want == 1 ? 20 : 60, 0, 0);
                stands(b, 2, want == 1 ? 22 : kind == 1 ? 30 : 62, 0, 0);
                due("the one that is not placed", () -> b.at(3, 0) + b.at(3, 3), 0);
            }
        });
        test("what comes of it is kept when all stands well: keep-outs and NEAR pairs", () -> {
            long s = seed(4, r -> moves(r, 0, 2, 1, 64, 20));
            for (long most = 38; most <= 39; most++) {
                Board b = board(64, 1, s, 1, 1, 1, 1);
                b.put(0, 60, 0, 0);
                b.put(1, 59, 0, 0);
                b.near(0, 1, most);
                int want = most == 39 ? 1 : 0;
                due("a NEAR pair of " + most, () -> b.run(1), want);
            }
            for (long tall = 1; tall <= 2; tall++) {
                Board b = line(64, s, 60);
                b.height(1, 2);
                b.keepOut(20, 0, 21, 1, tall);
                int want = tall == 2 ? 1 : 0;
                due("a keep-out of " + tall, () -> b.run(1), want);
                stands(b, 1, want == 1 ? 20 : 60, 0, 0);
            }
        });
    }

    /** How many of a hundred steps turn the one part. */
    private static int turned(long s) {
        int turned = 0;
        long[] r = draws(s, 400);
        for (int i = 0; i < 400; i += 4) if (r[i + 1] % 4 == 1) turned++;
        return turned;
    }

    private static void runTurns() {
        test("it is turned by d mod 3 + 1 quarters more where it is", () -> {
            for (int from = 0; from < 4; from++) {
                for (int d = 0; d < 3; d++) {
                    int rest = d, first = from, last = (from + d + 1) % 4;
                    long s = seed(4, r -> r[0] % 2 == 0 && r[1] % 4 == 1 && r[3] % 3 == rest);
                    Board b = board(30, 30, s, 2, 2, 1, 1);
                    // The pin of part 0, at 2, 2 when not turned, comes to that of part 1 by this turn alone.
                    long[] px = {12, 10, 10, 12};
                    long[] py = {12, 12, 10, 10};
                    b.put(0, 10, 10, from);
                    b.put(1, px[last] == 12 ? 12 : 9, py[last] == 12 ? 12 : 9, 0);
                    b.net();
                    b.pin(0, 0, 2, 2);
                    b.pin(0, 1, px[last] == 12 ? 0 : 1, py[last] == 12 ? 0 : 1);
                    due("turned from " + first + " by " + (rest + 1), () -> b.run(1), 1);
                    stands(b, 0, 10, 10, last);
                    due("wire", b::wire, 0);
                }
            }
        });
        test("it is turned: off the board, or into another one, is not kept", () -> {
            long s = seed(4, r -> r[0] % 2 == 0 && r[1] % 4 == 1 && r[3] % 3 != 1);
            for (int kind = 0; kind < 4; kind++) {
                Board b = board(10, 10, s, 4, 2, 1, 1);
                b.put(0, 0, kind == 0 ? 6 : kind == 1 ? 7 : 0, 0);
                if (kind >= 2) b.put(1, 1, kind == 2 ? 4 : 3, 0);
                int want = kind % 2 == 0 ? 1 : 0;
                due("kind " + kind, () -> b.run(1), want);
            }
        });
        test("it is turned, if it is in no group with another placed one", () -> {
            long s = seed(4, r -> r[0] % 2 == 0 && r[1] % 4 == 1);
            for (int kind = 0; kind < 3; kind++) {
                Board b = board(10, 10, s, 1, 1, 1, 1);
                b.put(0, 0, 0, 0);
                if (kind > 0) b.group(0, 1);
                if (kind > 1) b.put(1, 5, 5, 0);
                int want = kind == 2 ? 0 : 1;
                due("kind " + kind, () -> b.run(1), want);
            }
        });
    }

    private static void runSwaps() {
        long s = seed(4, r -> r[0] % 4 == 1 && r[1] % 4 == 0 && r[2] % 4 == 2);
        test("it and part c mod n change places (the one goes to the other's corner, both keep their turns)", () -> {
            Board b = swapping(s, true);
            due("wire before", b::wire, 50);
            due("swapped", () -> b.run(1), 1);
            stands(b, 1, 20, 10, 1);
            stands(b, 2, 50, 10, 2);
            due("wire behind", b::wire, 20);
        });
        test("they change places, if both are placed, not in one group", () -> {
            Board one = swapping(s, true);
            one.group(1, 3);
            one.group(3, 2);
            refused(one, "in one group", () -> one.run(1), 0);
            Board bare = board(60, 60, s, 3, 2, 3, 2, 3, 2, 3, 2);
            bare.put(1, 50, 10, 1);
            refused(bare, "the other one is not placed", () -> bare.run(1), 0);
            Board other = board(60, 60, s, 3, 2, 3, 2, 3, 2, 3, 2);
            other.put(2, 50, 10, 1);
            refused(other, "it is not placed itself", () -> other.run(1), 0);
            long own = seed(4, r -> r[0] % 4 == 1 && r[1] % 4 == 0 && r[2] % 4 == 1);
            Board self = swapping(own, true);
            refused(self, "with itself", () -> self.run(1), 0);
        });
        test("they change places: nor one that would move a locked one", () -> {
            for (int locked = 1; locked <= 2; locked++) {
                Board b = swapping(s, true);
                b.lock(locked, true);
                refused(b, "locked " + locked, () -> b.run(1), 0);
            }
            Board mate = swapping(s, true);
            mate.put(3, 20, 30, 0);
            mate.group(3, 2);
            mate.lock(3, true);
            refused(mate, "a mate of the other one is locked", () -> mate.run(1), 0);
            Board free = swapping(s, true);
            free.put(3, 20, 30, 0);
            free.group(3, 2);
            due("a mate of the other one goes along", () -> free.run(1), 1);
            stands(free, 3, 50, 30, 0);
            stands(free, 2, 50, 10, 2);
        });
        test("they change places: off the board, or into another one, is not kept", () -> {
            for (long y = 57; y <= 58; y++) {
                Board b = swapping(s, false);
                b.put(2, 20, y, 2);
                // Part 1, turned once, is 3 high.
                int want = y == 57 ? 1 : 0;
                due("at y " + y, () -> b.run(1), want);
            }
            for (long y = 12; y <= 13; y++) {
                Board b = swapping(s, true);
                b.put(3, 20, y, 0);
                int want = y == 13 ? 1 : 0;
                due("beside another one at " + y, () -> b.run(1), want);
            }
        });
        test("they change places, and change nothing: two of two sides on one corner", () -> {
            Board b = board(60, 60, s, 3, 2, 3, 2);
            b.part(3, 2, 1);
            b.part(3, 2, 0);
            b.put(1, 50, 10, 1);
            b.put(2, 50, 10, 0);
            refused(b, "on one corner", () -> b.run(1), 0);
        });
    }

    /** Part 1 at 50, 10 turned once, part 2 at 20, 10 turned twice; with wire, from part 1 to 0, 10. */
    private static Board swapping(long s, boolean wired) {
        Board b = board(60, 60, s, 3, 2, 3, 2, 3, 2, 3, 2);
        b.put(0, 0, 10, 0);
        b.put(1, 50, 10, 1);
        b.put(2, 20, 10, 2);
        b.net();
        if (wired) {
            b.pin(0, 0, 0, 0);
            b.pin(0, 1, 0, 2);
        }
        return b;
    }

    /** Part 1 is moved to the given places, one each step, and in a last step one that is not placed: nothing. */
    private static long leading(long width, long... places) {
        return seed(4 * places.length + 4, r -> {
            for (int i = 0; i < places.length; i++) if (!moves(r, 4 * i, 3, 1, width, places[i])) return false;
            return r[4 * places.length] % 3 == 2;
        });
    }

    private static Board led(long seed, long width, long x) {
        Board b = board(width, 1, seed, 1, 1, 1, 1, 1, 1);
        wireUp(b, x);
        return b;
    }

    private static void runAllowance() {
        test("the wire at the beginning times the steps that are left behind this one, by 8 and by the steps, cut down", () -> {
            // Of two steps: 159 * 1 / 8 / 2 = 9, 160 * 1 / 8 / 2 = 10, 175 * 1 / 8 / 2 = 10, 176 * 1 / 8 / 2 = 11.
            long[] wires = {159, 160, 175, 176};
            long[] most = {9, 10, 10, 11};
            for (int i = 0; i < wires.length; i++) {
                for (long more = most[i]; more <= most[i] + 1; more++) {
                    Board b = led(leading(200, wires[i] + more), 200, wires[i]);
                    int want = more == most[i] ? 1 : 0;
                    due("from " + wires[i] + " by " + more, () -> b.run(2), want);
                    stands(b, 1, wires[i], 0, 0);
                }
            }
        });
        test("the last step has none left behind it: the wire must not be above that before the step", () -> {
            for (long x = 99; x <= 101; x++) {
                long to = x;
                long s = seed(4, r -> moves(r, 0, 3, 1, 200, to) && r[3] >= 0);
                Board b = led(s, 200, 100);
                int want = x == 99 ? 1 : 0;
                due("to " + x, () -> b.run(1), want);
                stands(b, 1, x == 99 ? 99 : 100, 0, 0);
            }
            long s = seed(4, r -> moves(r, 0, 3, 1, 64, 40));
            Board level = board(64, 1, s, 1, 1, 1, 1, 1, 1);
            wireUp(level, 20);
            level.put(0, 30, 0, 0);
            due("the same wire, at another place: kept", () -> level.run(1), 1);
            stands(level, 1, 20, 0, 0);
        });
        test("the wire is not above that before the step (not that at the beginning)", () -> {
            // Of three steps from 24: 24 * 2 / 24 = 2, then 24 * 1 / 24 = 1.
            for (long second = 27; second <= 28; second++) {
                Board b = led(leading(40, 26, second), 40, 24);
                int want = second == 27 ? 2 : 1;
                due("by 2, then to " + second, () -> b.run(3), want);
            }
            // From 24 down to 10: what was the wire at the beginning is too much then.
            for (long second = 11; second <= 12; second++) {
                Board b = led(leading(40, 10, second), 40, 24);
                int want = second == 11 ? 2 : 1;
                due("to 10, then to " + second, () -> b.run(3), want);
                stands(b, 1, 10, 0, 0);
            }
        });
        test("the wire at the beginning of this run (not of an earlier one)", () -> {
            long s = seed(12, r -> moves(r, 0, 3, 1, 40, 8) && moves(r, 4, 3, 1, 40, 9) && r[8] % 3 == 2);
            Board b = led(s, 40, 39);
            due("an earlier run", () -> b.run(1), 1);
            due("from 8 on two steps allow 8 * 1 / 16 = 0", () -> b.run(2), 0);
            stands(b, 1, 8, 0, 0);
        });
    }

    private static void runLeast() {
        test("in the end the first one of all placements in this run with the least wire stands", () -> {
            Board b = board(40, 1, leading(40, 24, 16), 1, 1, 1, 1, 1, 1);
            wireUp(b, 39);
            b.put(0, 20, 0, 0);
            due("to 24, then to 16, both 4 from the other one", () -> b.run(3), 2);
            stands(b, 1, 24, 0, 0);
            due("wire", () -> b.wire() + " " + b.full(), "4 4");
        });
        test("the one at the beginning, too", () -> {
            Board b = board(40, 1, leading(40, 24, 15), 1, 1, 1, 1, 1, 1);
            wireUp(b, 16);
            b.put(0, 20, 0, 0);
            due("to 24, as far as at the beginning; 15 is too far then", () -> b.run(3), 1);
            stands(b, 1, 16, 0, 0);
            due("wire", () -> b.wire() + " " + b.full(), "4 4");
        });
        test("with the least wire, not the last one", () -> {
            Board b = led(leading(64, 10, 12), 64, 60);
            due("to 10, then to 12, as 60 * 1 / 24 = 2", () -> b.run(3), 2);
            stands(b, 1, 10, 0, 0);
            due("wire", () -> b.wire() + " " + b.full(), "10 10");
        });
        test("run: how many were kept that changed something", () -> {
            Board b = led(leading(40, 30, 30), 40, 39);
            due("to 30, and to 30 again", () -> b.run(3), 1);
            Board none = board(40, 40, 3, 5, 5, 5, 5);
            refused(none, "nothing placed", () -> none.run(2000), 0);
            none.put(0, 0, 0, 0);
            none.put(1, 20, 20, 0);
            none.lock(0, true);
            none.lock(1, true);
            refused(none, "all locked", () -> none.run(2000), 0);
        });
    }

    // ---- promise 12

    private static void nears() {
        test("near: IndexOutOfBoundsException, when there are no such parts", () -> {
            Board b = board(20, 20, 0, 2, 2, 2, 2);
            for (int no : new int[] {Integer.MIN_VALUE, -1, 2, 40, Integer.MAX_VALUE}) {
                refused(b, "part " + no, () -> b.near(no, 0, 5), INDEX);
                refused(b, "other " + no, () -> b.near(0, no, 5), INDEX);
                refused(b, "both " + no, () -> b.near(no, no, -1), INDEX);
            }
        });
        test("near: IllegalArgumentException, when most is below 0; false, when it is one part", () -> {
            Board b = board(20, 20, 0, 2, 2, 2, 2);
            b.put(0, 0, 0, 0);
            b.put(1, 9, 0, 0);
            for (long no : new long[] {MIN, MIN + 1, -65536, -1}) {
                refused(b, "most " + no, () -> b.near(0, 1, no), ARGUMENT);
                refused(b, "one part, most " + no, () -> b.near(0, 0, no), ARGUMENT);
            }
            for (long most : new long[] {0, 1, MAX}) refused(b, "one part", () -> b.near(1, 1, most), false);
            due("most 7", () -> b.near(1, 0, 7), true);
            due("most MAX", () -> b.near(1, 0, MAX), true);
        });
        test("the gap of their rectangles along x and that along y are together not above its number", () -> {
            for (int turn = 0; turn < 4; turn++) {
                long wide = turn % 2 == 0 ? 5 : 3, high = 8 - wide;
                for (long x = 0; x <= 26; x += 1) {
                    for (long y = 0; y <= 26; y += 2) {
                        long gapX = Math.max(0, Math.max(12 - (x + wide), x - 16));
                        long gapY = Math.max(0, Math.max(12 - (y + high), y - 14));
                        Board b = board(40, 40, 0, 4, 2);
                        b.part(5, 3, 1);
                        b.put(0, 12, 12, 0);
                        b.put(1, x, y, turn);
                        String where = x + " " + y + " turned " + turn;
                        if (gapX + gapY > 0) refused(b, "1 less at " + where, () -> b.near(0, 1, gapX + gapY - 1), false);
                        due("just that at " + where, () -> b.near(1, 0, gapX + gapY), true);
                    }
                }
            }
        });
        test("of each NEAR pair, both placed; a refused one is none", () -> {
            Board away = board(40, 40, 0, 2, 2, 2, 2);
            away.put(0, 30, 30, 0);
            due("the other one is not placed", () -> away.near(0, 1, 3), true);
            due("nor is the first one", () -> away.near(1, 0, 3), true);
            Board b = board(40, 40, 0, 2, 2, 2, 2);
            b.put(0, 0, 0, 0);
            due("one of them is not placed", () -> b.near(0, 1, 3), true);
            refused(b, "put too far", () -> b.put(1, 4, 4, 0), false);
            refused(b, "put too far along x", () -> b.put(1, 6, 0, 0), false);
            due("put just there", () -> b.put(1, 5, 2, 0), true);
            refused(b, "moved away", () -> b.put(0, 0, 40 - 2, 0), false);
        });
        test("near: false, refused, when there are 20", () -> {
            Board b = board(40, 40, 0, 2, 2, 2, 2, 2, 2);
            b.put(0, 0, 0, 0);
            b.put(1, 9, 0, 0);
            for (int i = 0; i < 20; i++) {
                refused(b, "refused, so not counted", () -> b.near(0, 1, 6), false);
                refused(b, "one part, so not counted", () -> b.near(0, 0, 6), false);
                due("pair " + i, () -> b.near(0, 1, 7), true);
            }
            refused(b, "the 21st", () -> b.near(0, 1, 7), false);
            refused(b, "the 21st, of parts not placed", () -> b.near(2, 1, 0), false);
            refused(b, "the 21st, most -1", () -> b.near(2, 1, -1), ARGUMENT);
            due("it is none", () -> b.put(2, 39 - 2, 39 - 2, 0), true);
            refused(b, "the others are", () -> b.put(1, 10, 0, 0), false);
        });
        test("a NEAR pair of one group, or of two sides, and one that stays near while the other one goes", () -> {
            Board b = board(40, 40, 0, 2, 2);
            b.part(2, 2, 1);
            b.put(0, 5, 5, 0);
            b.put(1, 5, 5, 0);
            due("of two sides, one over the other", () -> b.near(0, 1, 0), true);
            due("a corner in common", () -> b.put(1, 7, 7, 0), true);
            refused(b, "a gap of 1", () -> b.put(1, 8, 7, 0), false);
            b.group(0, 1);
            due("both go", () -> b.put(1, 30, 30, 0), true);
            stands(b, 0, 28, 28, 0);
        });
    }

    // ---- promise 13

    private static void groups() {
        test("group: IndexOutOfBoundsException, when there are no such parts", () -> {
            Board b = board(20, 20, 0, 2, 2, 2, 2);
            for (int no : new int[] {Integer.MIN_VALUE, -1, 2, 40, Integer.MAX_VALUE}) {
                refused(b, "a " + no, () -> b.group(no, 0), INDEX);
                refused(b, "b " + no, () -> b.group(0, no), INDEX);
                refused(b, "both " + no, () -> b.group(no, no), INDEX);
            }
        });
        test("the groups of two parts become one: of how many parts it is", () -> {
            Board b = new Board(50, 50, 0);
            for (int i = 0; i < 40; i++) b.part(1, 1, i % 2);
            refused(b, "one part", () -> b.group(7, 7), 1);
            for (int i = 39; i > 20; i--) {
                int part = i;
                due("one more", () -> b.group(part, part - 1), 41 - part);
            }
            refused(b, "of one group already", () -> b.group(39, 25), 20);
            refused(b, "itself", () -> b.group(30, 30), 20);
            for (int i = 1; i < 20; i++) {
                int part = i;
                due("one more of the others", () -> b.group(0, part), part + 1);
            }
            due("both halves", () -> b.group(39, 19), 40);
            for (int i = 0; i < 40; i++) {
                int part = i;
                due("the lowest", () -> b.at(part, 5), 0);
            }
        });
        test("the groups of two parts become one: nothing moves, and locks stay", () -> {
            Board b = board(20, 20, 0, 2, 2, 2, 2);
            b.put(0, 1, 2, 3);
            b.put(1, 7, 8, 1);
            b.lock(1, true);
            due("two", () -> b.group(1, 0), 2);
            due("where they are", () -> seen(b), "0:1 2 3 1 0 0 0 0\n1:7 8 1 1 1 0 0 0\n0 0 true");
            due("a new part is in no group", () -> b.part(1, 1, 0), 2);
            due("its lowest", () -> b.at(2, 5), 2);
        });
    }

    // ---- promises 14 and 15

    private static void heights() {
        test("height: IndexOutOfBoundsException, when there is no such part; IllegalArgumentException, when h is not 0 .. 65,536", () -> {
            Board b = board(20, 20, 0, 2, 2, 2, 2);
            for (int no : new int[] {Integer.MIN_VALUE, -1, 2, 40, Integer.MAX_VALUE}) {
                refused(b, "part " + no, () -> b.height(no, 1), INDEX);
                refused(b, "part " + no + ", h -1", () -> b.height(no, -1), INDEX);
            }
            for (long no : FAR) refused(b, "h " + no, () -> b.height(0, no), ARGUMENT);
            for (long h : new long[] {65536, 0, 1, 65535}) {
                due("h " + h, () -> b.height(0, h), true);
                due("at 6", () -> b.at(0, 6) + " " + b.at(1, 6), h + " 0");
            }
        });
        test("height: false, refused, when it is higher than a keep-out under it allows", () -> {
            Board b = board(20, 20, 0, 2, 2, 2, 2);
            b.part(2, 2, 1);
            b.keepOut(5, 5, 10, 10, 4);
            b.keepOut(0, 0, 6, 6, 7);
            b.put(0, 5, 5, 0);
            b.put(1, 0, 0, 0);
            b.put(2, 9, 9, 0);
            due("as high as allowed", () -> b.height(0, 4), true);
            refused(b, "1 more", () -> b.height(0, 5), false);
            due("lower again", () -> b.height(0, 3), true);
            due("beside the lower one", () -> b.height(1, 7), true);
            refused(b, "1 more", () -> b.height(1, 8), false);
            due("of the other side", () -> b.height(2, 4), true);
            refused(b, "of the other side, 1 more", () -> b.height(2, 5), false);
            due("away from both", () -> b.put(0, 10, 0, 0), true);
            due("any height", () -> b.height(0, 65536), true);
            refused(b, "then it can not come back", () -> b.put(0, 9, 8, 0), false);
            due("up to the border it can", () -> b.put(0, 10, 7, 0), true);
        });
        test("height: a part that is not placed", () -> {
            Board b = board(20, 20, 0, 2, 2);
            b.keepOut(MIN, MIN, MAX, MAX, 65535);
            due("not placed: any height", () -> b.height(0, 65536), true);
            refused(b, "too high to be placed", () -> b.put(0, 3, 3, 0), false);
            due("lower", () -> b.height(0, 65535), true);
            due("placed", () -> b.put(0, 3, 3, 0), true);
            refused(b, "higher", () -> b.height(0, 65536), false);
        });
    }

    private static void keepOuts() {
        test("keepOut: IllegalArgumentException, when height is below 0", () -> {
            Board b = board(20, 20, 0, 2, 2);
            for (long no : new long[] {MIN, MIN + 1, -65536, -1}) {
                refused(b, "height " + no, () -> b.keepOut(0, 0, 1, 1, no), ARGUMENT);
                refused(b, "turned, height " + no, () -> b.keepOut(1, 1, 0, 0, no), ARGUMENT);
            }
            due("height 0", () -> b.keepOut(0, 0, 1, 1, 0), true);
            due("height MAX", () -> b.keepOut(0, 0, 1, 1, MAX), true);
        });
        test("keepOut: false, refused, also when it is turned, or without area", () -> {
            Board b = board(20, 20, 0, 2, 2);
            refused(b, "turned along x", () -> b.keepOut(3, 0, 2, 5, 0), false);
            refused(b, "turned along y", () -> b.keepOut(0, 3, 5, 2, 0), false);
            refused(b, "turned both ways", () -> b.keepOut(3, 3, 2, 2, 0), false);
            refused(b, "without area along x", () -> b.keepOut(3, 0, 3, 5, 0), false);
            refused(b, "without area along y", () -> b.keepOut(0, 3, 5, 3, 0), false);
            refused(b, "a point", () -> b.keepOut(3, 3, 3, 3, 0), false);
            refused(b, "turned, and wide as it wraps", () -> b.keepOut(MAX, 0, MIN, 5, 0), false);
            refused(b, "turned, and high as it wraps", () -> b.keepOut(0, MAX, 5, MIN, 0), false);
            due("of all longs", () -> b.keepOut(MIN, MIN, MAX, MAX, 0), true);
            b.put(0, 3, 3, 0);
            refused(b, "it is there", () -> b.height(0, 1), false);
        });
        test("keepOut: false when there are 10", () -> {
            Board b = board(20, 20, 0, 2, 2, 2, 2);
            b.height(0, 1);
            b.put(0, 0, 0, 0);
            for (int i = 0; i < 10; i++) {
                refused(b, "over a part, so not counted", () -> b.keepOut(1, 1, 5, 5, 0), false);
                refused(b, "turned, so not counted", () -> b.keepOut(5, 5, 1, 1, 0), false);
                refused(b, "height -1, so not counted", () -> b.keepOut(5, 5, 9, 9, -1), ARGUMENT);
                due("keep-out " + i, () -> b.keepOut(10, 10, 12, 12, 0), true);
            }
            refused(b, "the 11th", () -> b.keepOut(10, 10, 12, 12, 0), false);
            refused(b, "the 11th, off the board", () -> b.keepOut(-5, -5, -2, -2, 0), false);
            refused(b, "the 11th, height -1", () -> b.keepOut(10, 10, 12, 12, -1), ARGUMENT);
            due("it is none", () -> b.put(0, 14, 14, 0), true);
        });
        test("no part that is higher than a keep-out allows overlaps it (on any side): a border in common", () -> {
            for (int side = 0; side < 2; side++) {
                for (long x = 4; x <= 11; x++) {
                    for (long y = 3; y <= 9; y++) {
                        Board b = new Board(20, 20, 0);
                        b.part(3, 2, side);
                        b.height(0, 5);
                        b.put(0, 7, 5, 0);
                        long x0 = x, y0 = y;
                        boolean free = x + 2 <= 7 || x >= 10 || y + 1 <= 5 || y >= 7;
                        due("as high as allowed", () -> b.keepOut(x0, y0, x0 + 2, y0 + 1, 5), true);
                        if (free) due("free at " + x + " " + y, () -> b.keepOut(x0, y0, x0 + 2, y0 + 1, 4), true);
                        else refused(b, "at " + x + " " + y, () -> b.keepOut(x0, y0, x0 + 2, y0 + 1, 4), false);
                    }
                }
            }
        });
        test("KEEP-OUTS are rectangles (of any longs): at the board's borders", () -> {
            Board b = board(20, 20, 0, 20, 20);
            b.height(0, 1);
            b.put(0, 0, 0, 0);
            due("left of it", () -> b.keepOut(MIN, MIN, 0, MAX, 0), true);
            due("right of it", () -> b.keepOut(20, MIN, MAX, MAX, 0), true);
            due("below it", () -> b.keepOut(MIN, MIN, MAX, 0, 0), true);
            due("above it", () -> b.keepOut(MIN, 20, MAX, MAX, 0), true);
            refused(b, "1 into it from the left", () -> b.keepOut(MIN, MIN, 1, MAX, 0), false);
            refused(b, "1 into it from the right", () -> b.keepOut(19, MIN, MAX, MAX, 0), false);
            refused(b, "1 into it from below", () -> b.keepOut(MIN, MIN, MAX, 1, 0), false);
            refused(b, "1 into it from above", () -> b.keepOut(MIN, 19, MAX, MAX, 0), false);
        });
    }

    // ---- promises 16 and 17, and all calls

    private static void sides() {
        test("side: IndexOutOfBoundsException, when there is none such", () -> {
            Board b = new Board(20, 20, 0);
            b.part(1, 1, 1);
            b.part(1, 1, 0);
            for (int no : new int[] {Integer.MIN_VALUE, -1, 2, 39, 40, Integer.MAX_VALUE}) due("part " + no, () -> b.side(no), INDEX);
            due("sides", () -> b.side(0) + " " + b.side(1), "1 0");
        });
        test("clear2: whether all stands well. (Always.)", () -> {
            due("an empty board", () -> new Board(0, 0, 0).clear2(), true);
            Board b = board(12, 12, 4, 3, 2, 2, 3, 1, 1, 4, 4);
            b.keepOut(6, 6, 9, 9, 3);
            b.near(0, 1, 6);
            for (int i = 0; i < 60; i++) {
                b.put(i % 4, i * 5 % 13 - 1, i * 7 % 13 - 1, i % 3);
                due("behind put", b::clear2, true);
                if (b.at(i % 4, 3) == 1) b.push(i % 4, i * 3 % 12, i * 11 % 12);
                due("behind push", b::clear2, true);
                b.height(i % 4, i % 5);
                due("behind height", b::clear2, true);
            }
        });
    }

    private static final long[] LONGS = {MIN, -1, 0, 1, 2, 65536, 65537, MAX};
    private static final int[] INTS = {Integer.MIN_VALUE, -1, 0, 1, 3, 4, 39, 40, Integer.MAX_VALUE};

    /** A board as calls may find it: 0 empty, 1 with some parts, 2 full of everything. */
    private static Board some(int kind) {
        Board b = new Board(kind == 2 ? MAX : 20, 20, 6);
        int count = kind == 0 ? 0 : kind == 1 ? 3 : 40;
        for (int i = 0; i < count; i++) {
            b.part(2, 1, i % 2);
            b.net();
            if (i != 1) b.put(i, 2 * i, i % 7, 0);
        }
        for (int i = 0; i < 3 * count; i++) b.pin(i % count, i * 7 % count, 1, 1);
        for (int i = 0; i < count / 2; i++) b.near(i, i + 1, MAX);
        for (int i = 0; i < count / 4; i++) b.keepOut(MIN, MIN, MAX, MAX, 5);
        if (count > 2) {
            b.group(0, 2);
            b.lock(count - 1, true);
        }
        return b;
    }

    /** A call that is refused or throws must leave all as it was, and throw only what the face names. */
    private static void calm(int kind, String before, String call, Function<Board, Object> calls, String named) {
        Board b = some(kind);
        String answer = answer(() -> calls.apply(b));
        boolean thrown = answer.startsWith("throws");
        if (thrown && !named.contains(answer)) due(call, () -> answer, "one of " + named);
        String behind = seen(b);
        if (thrown || answer.equals("false") || answer.equals("-1")) due("all as before " + call, () -> behind, before);
        due("clear2 behind " + call, () -> behind.endsWith("true"), true);
    }

    private static void wild() {
        test("a call throws what the document names, and nothing else; refused, it changes nothing", () -> {
            for (int kind = 0; kind < 3; kind++) {
                String before = seen(some(kind));
                for (int part : INTS) wildPart(kind, before, part);
                wildBoard(kind, before);
            }
        });
    }

    private static void wildPart(int kind, String before, int part) {
        calm(kind, before, "side", b -> b.side(part), INDEX);
        calm(kind, before, "lock", b -> b.lock(part, true), INDEX);
        calm(kind, before, "unlock", b -> b.lock(part, false), INDEX);
        for (long h : LONGS) calm(kind, before, "height", b -> b.height(part, h), INDEX + ARGUMENT);
        for (int other : INTS) {
            calm(kind, before, "at", b -> b.at(part, other), INDEX);
            calm(kind, before, "group", b -> b.group(part, other), INDEX);
            for (long most : LONGS) calm(kind, before, "near", b -> b.near(part, other, most), INDEX + ARGUMENT);
        }
        for (long x : LONGS) {
            for (long y : LONGS) {
                calm(kind, before, "push", b -> b.push(part, x, y), INDEX + STATE);
                for (int turn : INTS) calm(kind, before, "put", b -> b.put(part, x, y, turn), INDEX + ARGUMENT);
                for (int net : INTS) calm(kind, before, "pin", b -> b.pin(net, part, x, y), INDEX + ARGUMENT);
            }
        }
    }

    private static void wildBoard(int kind, String before) {
        calm(kind, before, "net", Board::net, "nothing");
        for (long steps : LONGS) calm(kind, before, "run", b -> b.run(steps), ARGUMENT);
        for (long x : LONGS) {
            for (long y : LONGS) {
                for (int side : INTS) calm(kind, before, "part", b -> b.part(x, y, side), ARGUMENT);
                for (long last : LONGS) calm(kind, before, "keepOut", b -> b.keepOut(x, 0, y, last, 4), ARGUMENT);
                for (long tall : LONGS) calm(kind, before, "keepOut", b -> b.keepOut(x, y, MAX, 1, tall), ARGUMENT);
            }
        }
    }

    public static void main
(String[] args) {
        Runnable[] all = {
            BoundaryTests::boards, BoundaryTests::parts, BoundaryTests::puts, BoundaryTests::nets, BoundaryTests::pushes,
            BoundaryTests::ats, BoundaryTests::runs, BoundaryTests::nears, BoundaryTests::groups, BoundaryTests::heights,
            BoundaryTests::keepOuts, BoundaryTests::sides, BoundaryTests::wild,
        };
        for (Runnable some : all) some.run();
        System.out.println(wrong == 0 ? tests + " tests, all answers are as due" : wrong + " answers are not as due");
        if (wrong != 0) System.exit(1);
    }
}
