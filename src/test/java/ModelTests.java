import java.util.ArrayList;
import java.util.List;
import java.util.Random;
import java.util.function.Supplier;

/** Plays random calls on the class and on a slow, literal model of the document, and compares every answer. */
public final class ModelTests {
    private static final int MOST_CALLS = 512;
    private static int wrong = 0;
    private static int asked = 0;

    /** A part of the model. */
    private static final class P {
        long w, h, x, y, tall;
        int side, turn;
        boolean placed, locked;
        List<P> group = new ArrayList<>(List.of(this));

        long wide() { return turn == 1 || turn == 3 ? h : w; }
        long high() { return turn == 1 || turn == 3 ? w : h; }
    }

    /** The document, sentence by sentence, without any care for speed. */
    private static final class Model {
        final long width, height;
        long s;
        final List<P> parts = new ArrayList<>();
        int nets = 0;
        final List<long[]> pins = new ArrayList<>();
        final List<long[]> nears = new ArrayList<>();
        final List<long[]> outs = new ArrayList<>();
        int dearestPush = 0;

        Model(long width, long height, long seed) {
            this.width = width < 1 ? 1 : width > 65536 ? 65536 : width;
            this.height = height < 1 ? 1 : height > 65536 ? 65536 : height;
            s = seed;
        }

        P need(int part) {
            if (part < 0 || part >= parts.size()) throw new IndexOutOfBoundsException();
            return parts.get(part);
        }

        static boolean cross(long a0, long a1, long b0, long b1) {
            return Math.max(a0, b0) < Math.min(a1, b1);
        }

        static boolean overlap(P a, P b) {
            return a.placed && b.placed && a.side == b.side && cross(a.x, a.x + a.wide(), b.x, b.x + b.wide())
                && cross(a.y, a.y + a.high(), b.y, b.y + b.high());
        }

        static long gap(long a0, long a1, long b0, long b1) {
            if (a1 < b0) return b0 - a1;
            if (b1 < a0) return a0 - b1;
            return 0;
        }

        boolean well() {
            for (P p : parts) {
                if (!p.placed) continue;
                if (p.x < 0 || p.y < 0 || p.x + p.wide() > width || p.y + p.high() > height) return false;
                for (P q : parts) if (p != q && overlap(p, q)) return false;
                for (long[] o : outs) {
                    if (p.tall > o[4] && cross(p.x, p.x + p.wide(), o[0], o[2]) && cross(p.y, p.y + p.high(), o[1], o[3])) return false;
                }
            }
            for (long[] n : nears) {
                P p = parts.get((int) n[0]);
                P q = parts.get((int) n[1]);
                if (p.placed && q.placed && gap(p.x, p.x + p.wide(), q.x, q.x + q.wide())
                    + gap(p.y, p.y + p.high(), q.y, q.y + q.high()) > n[2]) return false;
            }
            return true;
        }

        List<long[]> save() {
            List<long[]> rows = new ArrayList<>();
            for (P p : parts) rows.add(new long[] {p.x, p.y, p.turn, p.placed ? 1 : 0});
            return rows;
        }

        void restore(List<long[]> rows) {
            for (int i = 0; i < rows.size(); i++) {
                P p = parts.get(i);
                p.x = rows.get(i)[0];
                p.y = rows.get(i)[1];
                p.turn = (int) rows.get(i)[2];
                p.placed = rows.get(i)[3] == 1;
            }
        }

        boolean moved(List<long[]> rows, int i) {
            P p = parts.get(i);
            long[] r = rows.get(i);
            return r[3] == 1 && (p.x != r[0] || p.y != r[1] || p.turn != r[2]);
        }

        boolean lockedMoved(List<long[]> rows) {
            for (int i = 0; i < rows.size(); i++) if (parts.get(i).locked && moved(rows, i)) return true;
            return false;
        }

        void shift(P p, long dx, long dy) {
            for (P q : p.group) if (q.placed) { q.x += dx; q.y += dy; }
        }

        boolean placedMate(P p) {
            for (P q : p.group) if (q != p && q.placed) return true;
            return false;
        }

        int part(long w, long h, int side) {
            if (w < 1 || w > 65536 || h < 1 || h > 65536 || (side != 0 && side != 1)) throw new IllegalArgumentException();
            if (parts.size() == 40) return -1;
            P p = new P();
            p.w = w;
            p.h = h;
            p.side = side;
            parts.add(p);
            return parts.size() - 1;
        }

        boolean far(long x) { return x < -1000000 || x > 1000000; }

        boolean put(int part, long x, long y, int turn) {
            P p = need(part);
            if (turn < 0 || turn > 3) throw new IllegalArgumentException();
            if (far(x) || far(y)) return false;
            List<long[]> rows = save();
            if (p.placed) {
                if (placedMate(p) && turn != p.turn) return false;
                shift(p, x - p.x, y - p.y);
                p.turn = turn;
            } else {
                p.x = x;
                p.y = y;
                p.turn = turn;
                p.placed = true;
            }
            if (!well() || lockedMoved(rows)) {
                restore(rows);
                return false;
            }
            return true;
        }

        boolean lock(int part, boolean on) {
            P p = need(part);
            boolean was = p.locked;
            p.locked = on;
            return was != on;
        }

        int net() { return nets == 40 ? -1 : nets++; }

        boolean pin(int net, int part, long dx, long dy) {
            if (net < 0 || net >= nets) throw new IndexOutOfBoundsException();
            P p = need(part);
            if (dx < 0 || dy < 0 || dx > p.w || dy > p.h) throw new IllegalArgumentException();
            if (pins.size() == 120) return false;
            pins.add(new long[] {net, part, dx, dy});
            return true;
        }

        int push(int part, long x, long y) {
            P p = need(part);
            if (!p.placed) throw new IllegalStateException();
            if (far(x) || far(y)) return -1;
            List<long[]> rows = save();
            long dx = x - p.x;
            long dy = y - p.y;
            boolean alongX = Math.abs(dx) >= Math.abs(dy);
            long on = Long.signum(alongX ? dx : dy);
            shift(p, dx, dy);
            boolean good = pushOn(rows, p, alongX, on) && well() && !lockedMoved(rows);
            int count = 0;
            for (int i = 0; i < rows.size(); i++) if (i != part && moved(rows, i)) count++;
            if (!good) {
                restore(rows);
                return -1;
            }
            return count;
        }

        boolean pushOn(List<long[]> rows, P pushed, boolean alongX, long on) {
            int moves = 0;
            while (true) {
                P a = null;
                P b = null;
                for (int i = 0; i < parts.size() && a == null; i++) {
                    for (int j = i + 1; j < parts.size() && a == null; j++) {
                        if (overlap(parts.get(i), parts.get(j)) && (moved(rows, i) || moved(rows, j))) {
                            a = parts.get(i);
                            b = parts.get(j);
                        }
                    }
                }
                if (a == null) return true;
                if (a.group == b.group) return false;
                P go;
                if (a.group == pushed.group) {
                    go = b;
                } else if (b.group == pushed.group) {
                    go = a;
                } else {
                    long fa = on * (alongX ? a.x : a.y);
                    long fb = on * (alongX ? b.x : b.y);
                    go = fa > fb ? a : b;
                }
                P stay = go == a ? b : a;
                long step = 0;
                while (alongX && cross(go.x + step, go.x + step + go.wide(), stay.x, stay.x + stay.wide())) step += on;
                while (!alongX && cross(go.y + step, go.y + step + go.high(), stay.y, stay.y + stay.high())) step += on;
                shift(go, alongX ? step : 0, alongX ? 0 : step);
                moves++;
                dearestPush = Math.max(dearestPush, moves);
                if (moves == 200) return false;
            }
        }

        long at(int part, int what) {
            P p = need(part);
            if (what < 0 || what > 6) throw new IndexOutOfBoundsException();
            long low = parts.size();
            for (P q : p.group) low = Math.min(low, parts.indexOf(q));
            return new long[] {p.x, p.y, p.turn, p.placed ? 1 : 0, p.locked ? 1 : 0, low, p.tall}[what];
        }

        long draw() {
            s = s * 6364136223846793005L + 1442695040888963407L;
            return s >>> 33;
        }

        int run(long steps) {
            if (steps < 0 || steps > 2000) throw new IllegalArgumentException();
            if (parts.isEmpty()) return 0;
            long w0 = full();
            List<long[]> best = save();
            long least = w0;
            int kept = 0;
            for (long k = 1; k <= steps; k++) {
                long a = draw(), b = draw(), c = draw(), d = draw();
                P p = parts.get((int) (a % parts.size()));
                if (!p.placed || p.locked) continue;
                List<long[]> rows = save();
                long was = full();
                if (b % 4 == 0) {
                    P q = parts.get((int) (c % parts.size()));
                    if (!q.placed || p.group == q.group) continue;
                    long dx = q.x - p.x, dy = q.y - p.y;
                    shift(p, dx, dy);
                    shift(q, -dx, -dy);
                } else if (b % 4 == 1) {
                    if (placedMate(p)) continue;
                    p.turn = (int) ((p.turn + d % 3 + 1) % 4);
                } else {
                    shift(p, c % width - p.x, d % height - p.y);
                }
                long allowance = w0 * (steps - k) / 8 / steps;
                if (!well() || lockedMoved(rows) || full() - was > allowance) {
                    restore(rows);
                    continue;
                }
                boolean changed = false;
                for (int i = 0; i < rows.size(); i++) changed |= moved(rows, i);
                if (changed) kept++;
                if (full() < least) {
                    least = full();
                    best = save();
                }
            }
            restore(best);
            return kept;
        }

        long full() {
            long sum = 0;
            for (int n = 0; n < nets; n++) {
                List<Long> xs = new ArrayList<>();
                List<Long> ys = new ArrayList<>();
                for (long[] pin : pins) {
                    P p = parts.get((int) pin[1]);
                    if (pin[0] != n || !p.placed) continue;
                    long dx = pin[2], dy = pin[3];
                    long[] px = {dx, p.h - dy, p.w - dx, dy};
                    long[] py = {dy, dx, p.h - dy, p.w - dx};
                    xs.add(p.x + px[p.turn]);
                    ys.add(p.y + py[p.turn]);
                }
                if (!xs.isEmpty()) {
                    sum += xs.stream().max(Long::compare).get() - xs.stream().min(Long::compare).get();
                    sum += ys.stream().max(Long::compare).get() - ys.stream().min(Long::compare).get();
                }
            }
            return sum;
        }

        boolean near(int part, int other, long most) {
            need(part);
            need(other);
            if (most < 0) throw new IllegalArgumentException();
            if (part == other || nears.size() == 20) return false;
            nears.add(new long[] {part, other, most});
            if (well()) return true;
            nears.remove(nears.size() - 1);
            return false;
        }

        int group(int a, int b) {
            P p = need(a);
            P q = need(b);
            if (p.group != q.group) {
                List<P> gone = q.group;
                p.group.addAll(gone);
                for (P r : gone) r.group = p.group;
            }
            return p.group.size();
        }

        boolean height(int part, long h) {
            P p = need(part);
            if (h < 0 || h > 65536) throw new IllegalArgumentException();
            long was = p.tall;
            p.tall = h;
            if (well()) return true;
            p.tall = was;
            return false;
        }

        boolean keepOut(long x0, long y0, long x1, long y1, long tall) {
            if (tall < 0) throw new IllegalArgumentException();
            if (x1 <= x0 || y1 <= y0 || outs.size() == 10) return false;
            outs.add(new long[] {x0, y0, x1, y1, tall});
            if (well()) return true;
            outs.remove(outs.size() - 1);
            return false;
        }

        int side(int part) { return need(part).side; }
    }

    private static String answer(Supplier<Object> call) {
        try {
            return String.valueOf(call.get());
        } catch (IndexOutOfBoundsException | IllegalArgumentException | IllegalStateException e) {
            return "throws." + e.getClass().getSimpleName();
        }
    }

    private static void same(String call, Supplier<Object> real, Supplier<Object> model) {
        asked++;
        String got = answer(real);
        String want = answer(model);
        if (!got.equals(want)) {
            wrong++;
            if (wrong <= 20) System.out.println(call + " answered " + got + ", due is " + want);
        }
    }

    private static long spot(Random r, long length) {
        int kind = r.nextInt(60);
        if (kind == 0) return Long.MAX_VALUE - r.nextInt(3);
        if (kind == 1) return Long.MIN_VALUE + r.nextInt(3);
        return r.nextInt((int) length + 4) - 2;
    }

    private static void look(String where, BoardMoves real, Model model, int part, int kind) {
        if (kind == 0) same(where + "wire", real::wire, model::full);
        else if (kind == 1) same(where + "full", real::full, model::full);
        else if (kind == 2) same(where + "clear2", real::clear2, () -> true);
        else if (kind == 3) same(where + "side", () -> real.side(part), () -> model.side(part));
        else same(where + "at " + part + " " + (kind - 5), () -> real.at(part, kind - 5), () -> model.at(part, kind - 5));
    }

    /** One board: which calls are likely differs from board to board. */
    private static int play(long seed) {
        Random r = new Random(seed);
        long width = 1 + r.nextInt(r.nextBoolean() ? 60 : 14);
        long height = 1 + r.nextInt(r.nextBoolean() ? 60 : 14);
        long boardSeed = r.nextLong();
        int size = 1 + r.nextInt(r.nextBoolean() ? 4 : 12);
        int groups = r.nextInt(4);
        int locks = r.nextInt(3);
        BoardMoves real = new BoardMoves(width, height, boardSeed);
        Model model = new Model(width, height, boardSeed);
        String where = "board " + seed + ": ";
        asked = 0;
        // Nothing is promised beyond 512 calls: a call and a look each time, and in the end a look at everything.
        while (asked + 2 + 10 * (model.parts.size() + 1) + 3 <= MOST_CALLS) {
            int p = r.nextInt(model.parts.size() + 1) - (r.nextInt(30) == 0 ? 1 : 0);
            int q = r.nextInt(model.parts.size() + 1);
            long x = spot(r, width), y = spot(r, height), x1 = spot(r, width), y1 = spot(r, height);
            int side = r.nextInt(40) == 0 ? 2 : r.nextInt(5) / 4;
            long w = r.nextInt(40) == 0 ? 0 : 1 + r.nextInt(size), h = 1 + r.nextInt(size);
            int turn = r.nextInt(40) == 0 ? 4 : r.nextInt(4);
            boolean on = r.nextInt(3) == 0;
            switch (r.nextInt(16)) {
                case 0, 1 -> same(where + "part", () -> real.part(w, h, side), () -> model.part(w, h, side));
                case 2, 3, 4 -> same(where + "put", () -> real.put(p, x, y, turn), () -> model.put(p, x, y, turn));
                case 5 -> {
                    if (locks > 0) same(where + "lock", () -> real.lock(p, on), () -> model.lock(p, on));
                }
                case 6 -> same(where + "net", real::net, model::net);
                case 7, 8 -> {
                    int net = r.nextInt(model.nets + 1);
                    long dx = r.nextInt(size + 1), dy = r.nextInt(size + 1);
                    same(where + "pin", () -> real.pin(net, p, dx, dy), () -> model.pin(net, p, dx, dy));
                }
                case 9, 10, 11 -> same(where + "push", () -> real.push(p, x, y), () -> model.push(p, x, y));
                case 12 -> {
                    long most = r.nextInt(70) - 1;
                    if (r.nextInt(3) == 0) same(where + "near", () -> real.near(p, q, most), () -> model.near(p, q, most));
                }
                case 13 -> {
                    if (r.nextInt(6) < groups) same(where + "group", () -> real.group(p, q), () -> model.group(p, q));
                }
                case 14 -> {
                    long tall = r.nextInt(12) - 1;
                    if (on) same(where + "keepOut", () -> real.keepOut(x, y, x1, y1, tall), () -> model.keepOut(x, y, x1, y1, tall));
                    else same(where + "height", () -> real.height(p, tall), () -> model.height(p, tall));
                }
                default -> {
                    long steps = r.nextInt(5) == 0 ? r.nextInt(4) - 1 : r.nextInt(60);
                    if (on) same(where + "run", () -> real.run(steps), () -> model.run(steps));
                }
            }
            look(where, real, model, r.nextInt(model.parts.size() + 1), r.nextInt(12));
        }
        for (int part = 0; part < model.parts.size(); part++) for (int kind = 3; kind < 13; kind++) look(where, real, model, part, kind);
        for (int kind = 0; kind < 3; kind++) look(where, real, model, 0, kind);
        if (asked > MOST_CALLS) throw new UnsupportedOperationException("too many calls");
        return model.dearestPush;
    }

    /** A full row or column of parts in any order, some in groups, one end of which is pushed into the others. */
    private static int playRow(long seed) {
        Random r = new Random(seed);
        int count = 2 + r.nextInt(39);
        boolean alongX = r.nextBoolean();
        boolean fromEnd = r.nextBoolean();
        BoardMoves real = new BoardMoves(2000, 2000, seed);
        Model model = new Model(2000, 2000, seed);
        List<Integer> order = new ArrayList<>();
        for (int i = 0; i < count; i++) {
            order.add(r.nextInt(i + 1), i);
            long w = 1 + r.nextInt(9), h = 1 + r.nextInt(9);
            real.part(w, h, 0);
            model.part(w, h, 0);
        }
        String where = "row " + seed + ": ";
        long place = 700;
        for (int part : order) {
            int turn = r.nextInt(4);
            long along = place, across = 700 + r.nextInt(2);
            same(where + "put", () -> real.put(part, alongX ? along : across, alongX ? across : along, turn),
                () -> model.put(part, alongX ? along : across, alongX ? across : along, turn));
            P p = model.parts.get(part);
            place += (alongX ? p.wide() : p.high()) + r.nextInt(5) / 4;
        }
        for (int i = r.nextInt(3); i > 0; i--) {
            int a = r.nextInt(count), b = r.nextInt(count);
            same(where + "group", () -> real.group(a, b), () -> model.group(a, b));
        }
        int pushed = order.get(fromEnd ? count - 1 : 0);
        long way = 1 + r.nextInt((int) place - 700);
        P p = model.parts.get(pushed);
        long x = p.x + (alongX ? fromEnd ? -way : way : r.nextInt(2));
        long y = p.y + (alongX ? r.nextInt(2) : fromEnd ? -way : way);
        same(where + "push", () -> real.push(pushed, x, y), () -> model.push(pushed, x, y));
        for (int i = 0; i < count; i++) {
            int part = i;
            same(where + "x of " + i, () -> real.at(part, 0), () -> model.at(part, 0));
            same(where + "y of " + i, () -> real.at(part, 1), () -> model.at(part, 1));
        }
        return model.dearestPush;
    }

    /** A board with all the parts, nets and pins that there may be, and the longest runs. */
    private static void playFull(long seed) {
        Random r = new Random(seed);
        long[] lengths = {40, 300, 65536, 70000, Long.MAX_VALUE};
        long width = lengths[r.nextInt(5)], height = lengths[r.nextInt(5)];
        BoardMoves real = new BoardMoves(width, height, seed * 0x9E3779B97F4A7C15L);
        Model model = new Model(width, height, seed * 0x9E3779B97F4A7C15L);
        String where = "full board " + seed + ": ";
        asked = 0;
        for (int i = 0; i < 40; i++) {
            int part = i, side = r.nextInt(2), turn = r.nextInt(4);
            long w = 1 + r.nextInt((int) model.width / 8), h = 1 + r.nextInt((int) model.height / 8);
            long x = r.nextInt((int) model.width), y = r.nextInt((int) model.height);
            same(where + "part", () -> real.part(w, h, side), () -> model.part(w, h, side));
            same(where + "put", () -> real.put(part, x, y, turn), () -> model.put(part, x, y, turn));
            same(where + "net", real::net, model::net);
        }
        for (int i = 0; i < 120; i++) {
            int net = r.nextInt(40), part = r.nextInt(40);
            long dx = r.nextInt((int) model.parts.get(part).w + 1), dy = r.nextInt((int) model.parts.get(part).h + 1);
            same(where + "pin", () -> real.pin(net, part, dx, dy), () -> model.pin(net, part, dx, dy));
        }
        for (int i = r.nextInt(6); i > 0; i--) {
            int a = r.nextInt(40), b = r.nextInt(40);
            long most = r.nextInt((int) model.width);
            same(where + "group", () -> real.group(a, b), () -> model.group(a, b));
            same(where + "lock", () -> real.lock(b, true), () -> model.lock(b, true));
            same(where + "near", () -> real.near(a, b, most), () -> model.near(a, b, most));
            same(where + "height", () -> real.height(a, 9), () -> model.height(a, 9));
            same(where + "keepOut", () -> real.keepOut(0, 0, most, most, 8), () -> model.keepOut(0, 0, most, most, 8));
        }
        for (long steps : new long[] {2000, 1, 0, 1999, 7}) {
            same(where + "run", () -> real.run(steps), () -> model.run(steps));
            same(where + "wire", real::wire, model::full);
        }
        for (int part = 0; part < 40; part++) for (int kind = 5; kind < 8; kind++) look(where, real, model, part, kind);
        if (asked > MOST_CALLS) throw new UnsupportedOperationException("too many calls");
    }

    public static void main(String[] args) {
        int boards = args.length > 0 ? Integer.parseInt(args[0]) : 1500;
        int dearest = 0;
        for (int i = 0; i < boards && wrong == 0; i++) dearest = Math.max(dearest, play(i));
        for (int i = 0; i < boards && wrong == 0; i++) dearest = Math.max(dearest, playRow(i));
        for (int i = 0; i < boards / 75 && wrong == 0; i++) playFull(i);
        System.out.println(wrong == 0 ? "all answers are as the model's; dearest push " + dearest : wrong + " answers differ from the model's");
        if (wrong != 0) System.exit(1);
    }
}
