import java.math.BigInteger;
import java.util.ArrayList;
import java.util.Collections;
import java.util.List;
import java.util.TreeSet;

/**
 * The document once more, written as unlike the program as can be: RAYS step from point to point by fractions, CELLS
 * are looked for one by one, FAULTS are those that the machine throws, and all sets are tried.
 */
final class Reference {
    private static final int UNKNOWN = -1, OUTSIDE = -2, STATE = -3, FULL = -4, SPENT = -6, NONE = -9;

    /** A fraction above its denominator, which is above 0. */
    record Share(BigInteger over, BigInteger under) {
        static Share of(long n) {
            return new Share(BigInteger.valueOf(n), BigInteger.ONE);
        }

        static Share of(BigInteger over, BigInteger under) {
            BigInteger g = over.gcd(under).max(BigInteger.ONE);
            if (under.signum() < 0) {
                g = g.negate();
            }
            return new Share(over.divide(g), under.divide(g));
        }

        Share plus(Share o) {
            return of(over.multiply(o.under).add(o.over.multiply(under)), under.multiply(o.under));
        }

        Share minus(Share o) {
            return plus(new Share(o.over.negate(), o.under));
        }

        Share times(Share o) {
            return of(over.multiply(o.over), under.multiply(o.under));
        }

        Share by(Share o) {
            return of(over.multiply(o.under), under.multiply(o.over));
        }

        int than(Share o) {
            return over.multiply(o.under).compareTo(o.over.multiply(under));
        }
    }

    interface Lender {
        int number();

        Reference owner();

        default int called() {
            owner().leave(4);
            return number();
        }
    }

    static class W implements Lender {
        final Reference owner;
        final int number;
        final int[] flat;
        final int[] colour;

        W(Reference owner, int number, int... flat) {
            this.owner = owner;
            this.number = number;
            this.flat = flat;
            colour = new int[flat[4] * flat[5]];
        }

        @Override
        public int number() {
            return number;
        }

        @Override
        public Reference owner() {
            return owner;
        }

        int told() {
            owner.leave(1);
            return colour.length;
        }

        boolean back(int cell) {
            return false;
        }
    }

    static class M extends W {
        M(Reference owner, int number, int... flat) {
            super(owner, number, flat);
        }

        @Override
        int told() {
            owner.leave(2);
            return super.told() + flat[0];
        }

        @Override
        boolean back(int cell) {
            return true;
        }
    }

    static final class F extends M {
        F(Reference owner, int number, int... flat) {
            super(owner, number, flat);
        }

        @Override
        int told() {
            owner.leave(3);
            int mirrors = super.told();
            owner.leave(1);
            return mirrors + colour.length;
        }

        @Override
        public int called() {
            owner.leave(5);
            return 60;
        }

        @Override
        boolean back(int cell) {
            return colour[cell] == 0;
        }
    }

    private final List<W> walls = new ArrayList<>();
    private int[] board = {2, 20, 0, 0, 1, 1};
    private final int[][] eyes = new int[4][3];
    private int[][] pictures = new int[4][1];
    private final List<int[]> hours = new ArrayList<>();
    private final List<TreeSet<Integer>> wants = new ArrayList<>();
    private int plate = -1;
    private final Object[] sheets = new Object[4];
    private int trace = 0;
    private int fault = 0;
    private int thrown = 0;

    private void leave(int number) {
        trace = trace * 31 + number;
    }

    private static boolean in(int n, int a, int b) {
        return a <= n && n <= b;
    }

    private static boolean isFlat(int axis, int c, int u, int v, int w, int h) {
        return in(axis, 0, 2) && in(c, 0, 40) && in(u, 0, 40) && in(v, 0, 40) && in(w, 1, 8) && in(h, 1, 8)
            && u + w <= 40 && v + h <= 40;
    }

    private boolean isWall(int s) {
        return in(s, 0, walls.size() - 1);
    }

    private boolean isCell(int s, int cell) {
        return isWall(s) && in(cell, 0, walls.get(s).colour.length - 1);
    }

    private int boardCells() {
        return board[4] * board[5];
    }

    private static int[] sides(int axis) {
        return axis == 0 ? new int[] {1, 2} : axis == 1 ? new int[] {0, 2} : new int[] {0, 1};
    }

    // ---- rays

    private static int cellOf(int[] flat, Share[] at) {
        int[] side = sides(flat[0]);
        for (int j = 0; j < flat[5]; j++) {
            for (int i = 0; i < flat[4]; i++) {
                if (holds(flat[2] + i, at[side[0]]) && holds(flat[3] + j, at[side[1]])) {
                    return j * flat[4] + i;
                }
            }
        }
        return -1;
    }

    private static boolean holds(int from, Share at) {
        return Share.of(from).than(at) <= 0 && at.than(Share.of(from + 1)) < 0;
    }

    private int follow(Share[] from, int[] way, int never) {
        Share[] at = from.clone();
        int[] go = way.clone();
        thrown = 0;
        while (true) {
            W first = null;
            int firstCell = -1;
            Share soonest = null;
            Share[] there = null;
            for (W wall : walls) {
                int axis = wall.flat[0];
                if (wall.number == never || go[axis] == 0) {
                    continue;
                }
                Share t = Share.of(wall.flat[1]).minus(at[axis]).by(Share.of(go[axis]));
                if (t.than(Share.of(0)) <= 0) {
                    continue;
                }
                Share[] then = new Share[3];
                for (int k = 0; k < 3; k++) {
                    then[k] = at[k].plus(t.times(Share.of(go[k])));
                }
                int cell = cellOf(wall.flat, then);
                if (cell >= 0 && (soonest == null || t.than(soonest) < 0)) {
                    first = wall;
                    firstCell = cell;
                    soonest = t;
                    there = then;
                }
            }
            if (first == null) {
                return NONE;
            }
            if (!first.back(firstCell)) {
                return first.number * 100 + firstCell;
            }
            if (thrown == 3) {
                return NONE;
            }
            thrown++;
            at = there;
            go[first.flat[0]] *= -1;
        }
    }

    private static Share[] point(int... place) {
        return new Share[] {Share.of(place[0]), Share.of(place[1]), Share.of(place[2])};
    }

    private static Share[] middle(int[] flat, int cell) {
        int[] side = sides(flat[0]);
        Share half = Share.of(BigInteger.ONE, BigInteger.TWO);
        Share[] mid = new Share[3];
        mid[flat[0]] = Share.of(flat[1]);
        mid[side[0]] = Share.of(flat[2] + cell % flat[4]).plus(half);
        mid[side[1]] = Share.of(flat[3] + cell / flat[4]).plus(half);
        return mid;
    }

    private int view(int[] place, int cell) {
        Share[] mid = middle(board, cell);
        int[] way = new int[3];
        for (int k = 0; k < 3; k++) {
            Share twice = mid[k].minus(Share.of(place[k])).times(Share.of(2));
            way[k] = twice.over().intValueExact();
        }
        return follow(point(place), way, -1);
    }

    // ---- 1 space

    int surface(int kind, int axis, int c, int u, int v, int w, int h) {
        if (!in(kind, 0, 2) || !isFlat(axis, c, u, v, w, h)) {
            return OUTSIDE;
        }
        if (walls.size() == 10) {
            return FULL;
        }
        int n = walls.size();
        walls.add(kind == 0 ? new W(this, n, axis, c, u, v, w, h)
            : kind == 1 ? new M(this, n, axis, c, u, v, w, h) : new F(this, n, axis, c, u, v, w, h));
        return n;
    }

    int about(int s, int what) {
        if (!isWall(s)) {
            return UNKNOWN;
        }
        if (!in(what, 0, 7)) {
            return OUTSIDE;
        }
        W wall = walls.get(s);
        if (what == 0) {
            return wall instanceof F ? 2 : wall instanceof M ? 1 : 0;
        }
        return what == 7 ? painted(wall) : wall.flat[what - 1];
    }

    private static int painted(W wall) {
        int n = 0;
        for (int colour : wall.colour) {
            n += colour > 0 ? 1 : 0;
        }
        return n;
    }

    private int painted() {
        int n = 0;
        for (W wall : walls) {
            n += painted(wall);
        }
        return n;
    }

    int board(int axis, int c, int u, int v, int w, int h) {
        if (!isFlat(axis, c, u, v, w, h)) {
            return OUTSIDE;
        }
        board = new int[] {axis, c, u, v, w, h};
        pictures = new int[4][w * h];
        return w * h;
    }

    int eye(int e, int x, int y, int z) {
        if (!in(e, 0, 3)) {
            return UNKNOWN;
        }
        if (!in(x, 0, 40) || !in(y, 0, 40) || !in(z, 0, 40)) {
            return OUTSIDE;
        }
        eyes[e] = new int[] {x, y, z};
        return 1;
    }

    /** Taken as a row of a LANE by the machine's own casts, n cells from i on by its own copying. */
    private int[] taken(int k, int lane, int i, long n) {
        Object row = sheets[k];
        byte[] bytes = lane == 0 ? (byte[]) row : null;
        short[] shorts = lane == 1 ? (short[]) row : null;
        int[] ints = lane == 2 ? (int[]) row : null;
        int length = lane == 0 ? bytes.length : lane == 1 ? shorts.length : ints.length;
        if (n < 0) {
            throw new NegativeArraySizeException();
        }
        if (i < 0 || i > length || i + n > length) {
            throw new ArrayIndexOutOfBoundsException();
        }
        int[] out = new int[(int) n];
        for (int at = 0; at < n; at++) {
            out[at] = lane == 0 ? bytes[i + at] : lane == 1 ? shorts[i + at] : ints[i + at];
        }
        return out;
    }

    private int failure(RuntimeException e) {
        fault = e instanceof NullPointerException ? 1 : e instanceof ClassCastException ? 2
            : e instanceof ArrayIndexOutOfBoundsException ? 3 : 4;
        return -10 - fault;
    }

    int picture(int e, int sheet, int lane, int i) {
        fault = 0;
        if (!in(e, 0, 3) || !in(sheet, 0, 3)) {
            return UNKNOWN;
        }
        if (!in(lane, 0, 2)) {
            return OUTSIDE;
        }
        int[] row;
        try {
            row = taken(sheet, lane, i, boardCells());
        } catch (RuntimeException f) {
            return failure(f);
        }
        int count = 0;
        for (int colour : row) {
            if (!in(colour, 0, 9)) {
                return OUTSIDE;
            }
            count += colour > 0 ? 1 : 0;
        }
        pictures[e] = row;
        return count;
    }

    int wish(int e, int cell) {
        return in(e, 0, 3) && in(cell, 0, boardCells() - 1) ? pictures[e][cell] : UNKNOWN;
    }

    int paint(int s, int cell, int colour) {
        if (!isCell(s, cell)) {
            return UNKNOWN;
        }
        if (!in(colour, 0, 9)) {
            return OUTSIDE;
        }
        if (!takes(walls.get(s))) {
            return STATE;
        }
        int was = walls.get(s).colour[cell];
        walls.get(s).colour[cell] = colour;
        return was;
    }

    private static boolean takes(W wall) {
        return !(wall instanceof M) || wall instanceof F;
    }

    int colour(int s, int cell) {
        return isCell(s, cell) ? walls.get(s).colour[cell] : UNKNOWN;
    }

    private boolean wrongRay(int x, int y, int z, int a, int b, int c) {
        boolean place = in(x, 0, 40) && in(y, 0, 40) && in(z, 0, 40);
        boolean way = in(a, -99, 99) && in(b, -99, 99) && in(c, -99, 99);
        return !place || !way || a == 0 && b == 0 && c == 0;
    }

    int ray(int x, int y, int z, int a, int b, int c) {
        return wrongRay(x, y, z, a, b, c) ? OUTSIDE : follow(point(x, y, z), new int[] {a, b, c}, -1);
    }

    int bounces(int x, int y, int z, int a, int b, int c) {
        if (wrongRay(x, y, z, a, b, c)) {
            return OUTSIDE;
        }
        follow(point(x, y, z), new int[] {a, b, c}, -1);
        return thrown;
    }

    int seen(int e, int cell) {
        return in(e, 0, 3) && in(cell, 0, boardCells() - 1) ? view(eyes[e], cell) : UNKNOWN;
    }

    // ---- 2 painting

    /** EYE, CELL, COLOUR and what is SEEN of each WISH. */
    private List<int[]> wishList(int set) {
        List<int[]> list = new ArrayList<>();
        for (int e = 0; e < 4; e++) {
            for (int cell = 0; cell < boardCells(); cell++) {
                if ((set & 1 << e) != 0 && pictures[e][cell] != 0) {
                    list.add(new int[] {e, cell, pictures[e][cell], view(eyes[e], cell)});
                }
            }
        }
        return list;
    }

    private boolean met(int end, int colour) {
        return end != NONE && walls.get(end / 100).colour[end % 100] == colour;
    }

    int wishes(int set, int what) {
        if (!in(set, 0, 15) || !in(what, 0, 3)) {
            return OUTSIDE;
        }
        int[] counts = new int[4];
        for (int[] wish : wishList(set)) {
            counts[0]++;
            if (met(wish[3], wish[2])) {
                counts[1]++;
            } else if (wish[3] == NONE) {
                counts[2]++;
            } else {
                counts[3]++;
            }
        }
        return counts[what];
    }

    int painting(int set) {
        if (!in(set, 0, 15)) {
            return OUTSIDE;
        }
        wash();
        List<int[]> list = wishList(set);
        for (W wall : walls) {
            for (int cell = 0; cell < wall.colour.length; cell++) {
                int most = 0;
                for (int colour = 9; colour > 0; colour--) {
                    int votes = 0;
                    for (int[] wish : list) {
                        votes += wish[3] == wall.number * 100 + cell && wish[2] == colour ? 1 : 0;
                    }
                    if (votes > 0 && votes >= most) {
                        most = votes;
                        wall.colour[cell] = colour;
                    }
                }
            }
        }
        return painted();
    }

    int wash() {
        int n = painted();
        for (W wall : walls) {
            for (int cell = 0; cell < wall.colour.length; cell++) {
                wall.colour[cell] = 0;
            }
        }
        return n;
    }

    int idle(int set) {
        if (!in(set, 0, 15)) {
            return OUTSIDE;
        }
        List<int[]> list = wishList(set);
        int n = 0;
        for (W wall : walls) {
            for (int cell = 0; cell < wall.colour.length && takes(wall); cell++) {
                boolean isSeen = false;
                for (int[] wish : list) {
                    isSeen |= wish[3] == wall.number * 100 + cell;
                }
                n += isSeen ? 0 : 1;
            }
        }
        return n;
    }

    int sway(int e, int d, int what) {
        if (!in(e, 0, 3)) {
            return UNKNOWN;
        }
        if (!in(d, 1, 9) || !in(what, 0, 3)) {
            return OUTSIDE;
        }
        int[] best = null;
        for (int x = eyes[e][0] - d; x <= eyes[e][0] + d; x += d) {
            for (int y = eyes[e][1] - d; y <= eyes[e][1] + d; y += d) {
                for (int z = eyes[e][2] - d; z <= eyes[e][2] + d; z += d) {
                    if (in(x, 0, 40) && in(y, 0, 40) && in(z, 0, 40)) {
                        int bad = 0;
                        for (int cell = 0; cell < boardCells(); cell++) {
                            int colour = pictures[e][cell];
                            bad += colour != 0 && !met(view(new int[] {x, y, z}, cell), colour) ? 1 : 0;
                        }
                        if (best == null || bad > best[0]) {
                            best = new int[] {bad, x, y, z};
                        }
                    }
                }
            }
        }
        return best[what];
    }

    // ---- 3 light, colours

    int hour(int a, int b, int c) {
        if (!in(a, -9, 9) || !in(b, -9, 9) || !in(c, -9, 9) || a == 0 && b == 0 && c == 0) {
            return OUTSIDE;
        }
        if (hours.size() == 6) {
            return FULL;
        }
        hours.add(new int[] {a, b, c});
        wants.add(new TreeSet<>());
        return hours.size() - 1;
    }

    int plate(int s) {
        if (s != -1 && !isWall(s)) {
            return UNKNOWN;
        }
        int was = plate == -1 ? NONE : plate;
        plate = s;
        return was;
    }

    int want(int hour, int s, int cell, boolean is) {
        if (!in(hour, 0, hours.size() - 1) || !isCell(s, cell)) {
            return UNKNOWN;
        }
        TreeSet<Integer> set = wants.get(hour);
        return (is ? set.add(s * 100 + cell) : set.remove(s * 100 + cell)) ? 1 : 0;
    }

    int wanted(int hour, int sheet, int lane, int i, int n) {
        fault = 0;
        if (!in(hour, 0, hours.size() - 1) || !in(sheet, 0, 3)) {
            return UNKNOWN;
        }
        if (!in(lane, 0, 2)) {
            return OUTSIDE;
        }
        int[] row;
        try {
            row = taken(sheet, lane, i, 2L * n);
        } catch (RuntimeException f) {
            return failure(f);
        }
        TreeSet<Integer> set = new TreeSet<>();
        for (int at = 0; at < row.length; at += 2) {
            if (!isCell(row[at], row[at + 1])) {
                return UNKNOWN;
            }
            set.add(row[at] * 100 + row[at + 1]);
        }
        wants.set(hour, set);
        return set.size();
    }

    private int shine(int hour, int cell) {
        return follow(middle(walls.get(plate).flat, cell), hours.get(hour), plate);
    }

    int lit(int hour, int cell) {
        if (plate == -1) {
            return STATE;
        }
        return in(hour, 0, hours.size() - 1) && isCell(plate, cell) ? shine(hour, cell) : UNKNOWN;
    }

    int may(int cell) {
        if (plate == -1) {
            return STATE;
        }
        if (!isCell(plate, cell)) {
            return UNKNOWN;
        }
        for (int h = 0; h < hours.size(); h++) {
            int end = shine(h, cell);
            if (end != NONE && !wants.get(h).contains(end)) {
                return 0;
            }
        }
        return 1;
    }

    /** The row of the fewest HOLES; null: none lights all; of one below 0: SPENT. */
    private List<Integer> holes() {
        List<Integer> can = new ArrayList<>();
        for (int cell = 0; cell < walls.get(plate).colour.length; cell++) {
            if (may(cell) == 1) {
                can.add(cell);
            }
        }
        if (can.size() > 16) {
            return Collections.singletonList(SPENT);
        }
        // Each thing WANTED as the set of those that light it.
        List<Integer> lighters = new ArrayList<>();
        for (int h = 0; h < hours.size(); h++) {
            for (int end : wants.get(h)) {
                int by = 0;
                for (int k = 0; k < can.size(); k++) {
                    by |= shine(h, can.get(k)) == end ? 1 << k : 0;
                }
                lighters.add(by);
            }
        }
        List<Integer> best = null;
        for (int set = 0; set < 1 << can.size(); set++) {
            boolean all = true;
            for (int by : lighters) {
                all &= (set & by) != 0;
            }
            if (all) {
                List<Integer> row = new ArrayList<>();
                for (int k = 0; k < can.size(); k++) {
                    if ((set & 1 << k) != 0) {
                        row.add(can.get(k));
                    }
                }
                if (best == null || isLess(row, best)) {
                    best = row;
                }
            }
        }
        return best;
    }

    private static boolean isLess(List<Integer> a, List<Integer> b) {
        if (a.size() != b.size()) {
            return a.size() < b.size();
        }
        for (int k = 0; k < a.size(); k++) {
            if (!a.get(k).equals(b.get(k))) {
                return a.get(k) < b.get(k);
            }
        }
        return false;
    }

    int fewest() {
        if (plate == -1) {
            return STATE;
        }
        List<Integer> row = holes();
        return row == null ? NONE : row.contains(SPENT) ? SPENT : row.size();
    }

    int hole(int cell) {
        if (plate == -1) {
            return STATE;
        }
        if (!isCell(plate, cell)) {
            return UNKNOWN;
        }
        List<Integer> row = holes();
        return row == null ? NONE : row.contains(SPENT) ? SPENT : row.contains(cell) ? 1 : 0;
    }

    int few(int k, int what) {
        if (!in(k, 1, 9) || !in(what, 0, 1)) {
            return OUTSIDE;
        }
        int best = -1;
        int bestSum = 0;
        for (int set = 0; set < 1024; set++) {
            if ((set & 1) == 0 && Integer.bitCount(set) == k) {
                int sum = 0;
                for (int[] picture : pictures) {
                    for (int colour : picture) {
                        int near = colour == 0 ? 0 : 99;
                        for (int c = 1; c < 10 && colour != 0; c++) {
                            near = (set & 1 << c) != 0 ? Math.min(near, Math.abs(c - colour)) : near;
                        }
                        sum += near;
                    }
                }
                if (best < 0 || sum < bestSum) {
                    best = set;
                    bestSum = sum;
                }
            }
        }
        return what == 0 ? best : bestSum;
    }

    // ---- sheets, parts

    int sheet(int k, int lane, int n) {
        fault = 0;
        if (!in(k, 0, 3)) {
            return UNKNOWN;
        }
        if (!in(lane, 0, 2) || n > 64) {
            return OUTSIDE;
        }
        try {
            sheets[k] = lane == 0 ? new byte[n] : lane == 1 ? new short[n] : (Object) new int[n];
        } catch (NegativeArraySizeException f) {
            return failure(f);
        }
        return 1;
    }

    int lose(int k) {
        if (!in(k, 0, 3)) {
            return UNKNOWN;
        }
        int had = sheets[k] == null ? 0 : 1;
        sheets[k] = null;
        return had;
    }

    int put(int k, int i, int v) {
        fault = 0;
        if (!in(k, 0, 3)) {
            return UNKNOWN;
        }
        try {
            if (sheets[k] instanceof byte[] row) {
                row[i] = (byte) v;
            } else if (sheets[k] instanceof short[] row) {
                row[i] = (short) v;
            } else {
                ((int[]) sheets[k])[i] = v;
            }
        } catch (RuntimeException f) {
            return failure(f);
        }
        return 1;
    }

    long at(int k, int i, int lane) {
        fault = 0;
        if (!in(k, 0, 3) || !in(lane, 0, 2)) {
            return Long.MIN_VALUE;
        }
        try {
            return lane == 0 ? ((byte[]) sheets[k])[i] : lane == 1 ? ((short[]) sheets[k])[i] : ((int[]) sheets[k])[i];
        } catch (RuntimeException f) {
            failure(f);
            return Long.MIN_VALUE;
        }
    }

    int tell(int s) {
        return isWall(s) ? walls.get(s).told() : UNKNOWN;
    }

    int name(int s) {
        return isWall(s) ? walls.get(s).called() : UNKNOWN;
    }

    int as(int s, int kind) {
        fault = 0;
        if (!isWall(s)) {
            return UNKNOWN;
        }
        if (!in(kind, 0, 2)) {
            return OUTSIDE;
        }
        try {
            W wall = walls.get(s);
            W taken = kind == 0 ? wall : kind == 1 ? (M) wall : (F) wall;
            return taken == wall ? 1 : 0;
        } catch (ClassCastException f) {
            return failure(f);
        }
    }

    int trace() {
        return trace;
    }

    int fault() {
        return fault;
    }

    int many(int what) {
        int cells = 0;
        for (W wall : walls) {
            cells += wall.colour.length;
        }
        int all = 0;
        for (TreeSet<Integer> set : wants) {
            all += set.size();
        }
        int[] counts = {walls.size(), cells, boardCells(), hours.size(), painted(), all};
        return in(what, 0, 5) ? counts[what] : OUTSIDE;
    }
}
