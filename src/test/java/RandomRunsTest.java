import java.util.ArrayDeque;
import java.util.Deque;
import java.util.Random;
import java.util.TreeMap;

/** All promises at once: runs of calls, the same each time, on the program and on the reference. */
public final class RandomRunsTest {
    private static final String[] NAMES = {"surface", "about", "board", "eye", "picture", "wish", "paint", "colour",
        "ray", "bounces", "seen", "wishes", "painting", "wash", "idle", "sway", "hour", "plate", "want", "wanted",
        "lit", "may", "fewest", "hole", "few", "sheet", "lose", "put", "at", "tell", "name", "as", "trace", "fault",
        "many"};
    private static final int SURFACE = 0, BOARD = 2, EYE = 3, PICTURE = 4, WISH = 5, PAINT = 6, COLOUR = 7, RAY = 8,
        BOUNCES = 9, SEEN = 10, WISHES = 11, PAINTING = 12, WASH = 13, IDLE = 14, SWAY = 15, HOUR = 16, PLATE = 17,
        WANT = 18, WANTED = 19, LIT = 20, MAY = 21, FEWEST = 22, HOLE = 23, FEW = 24, SHEET = 25, PUT = 27, MANY = 34;

    private final Random random;
    private final Calls program = new Calls(new BentPictures());
    private final Calls reference = new Calls(new Reference());
    private final Deque<String> latest = new ArrayDeque<>();
    private final TreeMap<String, Integer> answers;
    private final int run;
    private int calls = 0;
    /** One number of so many is the one ahead of its range, one that after it, one far away. */
    private int oddity = 40;

    private RandomRunsTest(int run, TreeMap<String, Integer> answers) {
        this.run = run;
        this.answers = answers;
        random = new Random(1000 + run);
    }

    public static void main(String[] args) {
        int runs = args.length > 0 ? Integer.parseInt(args[0]) : 240;
        TreeMap<String, Integer> answers = new TreeMap<>();
        for (int run = 0; run < runs; run++) {
            RandomRunsTest test = new RandomRunsTest(run, answers);
            switch (run % 4) {
                case 0 -> test.anything();
                case 1 -> test.maze();
                case 2 -> test.gallery();
                default -> test.darkroom();
            }
        }
        for (int run = 0; run < runs / 8; run++) {
            new RandomRunsTest(runs + run, answers).farNumbers();
        }
        // A run that never comes to these would test little.
        String[] needed = {"bounces 3", "bounces 2", "ray end", "fewest 0", "fewest 2", "fewest 3", "fewest 4",
            "fewest 5", "fewest of more", "fewest -9", "fewest -6", "hole 1", "hole 0", "wishes 1", "sway 3", "picture -11", "picture -12",
            "picture -13", "wanted -13", "painting 9", "surface -4", "hour -4", "paint -3", "seen end", "may 1", "may 0"};
        for (String need : needed) {
            Due.is("how often " + need + " came, at least 5", Math.min(5, answers.getOrDefault(need, 0)), 5);
        }
        if (args.length > 0) {
            System.out.println(answers);
        }
        Due.end();
    }

    private int any(int from, int to) {
        return from + random.nextInt(to - from + 1);
    }

    /** Mostly in range, now and then beside it or far away. */
    private int about(int from, int to) {
        int kind = random.nextInt(oddity);
        if (kind == 0) {
            return from - 1;
        }
        if (kind == 1) {
            return to + 1;
        }
        if (kind == 2) {
            int[] far = {Integer.MIN_VALUE, Integer.MAX_VALUE, Integer.MIN_VALUE + 1, Integer.MAX_VALUE - 7, 1 << 30,
                3 << 29, -1 << 30, 1 << 16, -1 << 16, 255, 256, -100, 100, -64, 63, 64, 65};
            return far[random.nextInt(far.length)];
        }
        return any(from, to);
    }

    private long call(int method, int... a) {
        if (calls >= 512) {
            return 0;
        }
        calls++;
        long got = program.call(NAMES[method], a);
        long due = reference.call(NAMES[method], a);
        latest.add(Calls.text(NAMES[method], a) + " " + due);
        if (latest.size() > 12) {
            latest.remove();
        }
        boolean end = due >= 0 && (method == RAY || method == SEEN || method == LIT);
        answers.merge(NAMES[method] + (end ? " end" : " " + due), 1, Integer::sum);
        Due.is("run " + run + ", call " + calls + " " + (got == due ? "" : latest.toString()), got, due);
        return due;
    }

    /** Any call with numbers in range for the most part. */
    private void anyCall() {
        int method = random.nextInt(35);
        int[] a = switch (method) {
            case 0 -> new int[] {about(0, 2), about(0, 2), about(0, 40), about(0, 36), about(0, 36), about(1, 8), about(1, 8)};
            case 1 -> new int[] {about(0, 9), about(0, 7)};
            case 2 -> new int[] {about(0, 2), about(0, 40), about(0, 36), about(0, 36), about(1, 8), about(1, 8)};
            case 3 -> new int[] {about(0, 3), about(0, 40), about(0, 40), about(0, 40)};
            case 4 -> new int[] {about(0, 3), about(0, 3), about(0, 2), about(0, 8)};
            case 5, 10 -> new int[] {about(0, 3), about(0, any(0, 63))};
            case 6 -> new int[] {about(0, 9), about(0, any(0, 63)), about(0, 9)};
            case 7 -> new int[] {about(0, 9), about(0, any(0, 63))};
            case 8, 9 -> new int[] {about(0, 40), about(0, 40), about(0, 40), about(-99, 99), about(-9, 9), about(-9, 9)};
            case 11 -> new int[] {about(0, 15), about(0, 3)};
            case 12, 14 -> new int[] {about(0, 15)};
            case 15 -> new int[] {about(0, 3), about(1, 9), about(0, 3)};
            case 16 -> new int[] {about(-9, 9), about(-1, 1), about(-1, 1)};
            case 17 -> new int[] {about(-1, 9)};
            case 18 -> new int[] {about(0, 5), about(0, 9), about(0, any(0, 63)), any(0, 1)};
            case 19 -> new int[] {about(0, 5), about(0, 3), about(0, 2), about(0, 8), about(0, 8)};
            case 20 -> new int[] {about(0, 5), about(0, any(0, 63))};
            case 21, 23 -> new int[] {about(0, any(0, 63))};
            case 24 -> new int[] {about(1, 9), about(0, 1)};
            case 25 -> new int[] {about(0, 3), about(0, 2), about(0, 64)};
            case 27 -> new int[] {about(0, 3), about(0, 63), random.nextInt(3) == 0 ? random.nextInt() : any(0, 9)};
            case 28 -> new int[] {about(0, 3), about(0, 63), about(0, 2)};
            case 26, 29, 30 -> new int[] {about(0, 9)};
            case 31 -> new int[] {about(0, 9), about(0, 2)};
            case 34 -> new int[] {about(0, 5)};
            default -> new int[0];
        };
        call(method, a);
    }

    private void anything() {
        for (int k = 0; k < 512; k++) {
            anyCall();
        }
    }

    /** First something of everything, then calls of which the most have some number that is beside its range. */
    private void farNumbers() {
        for (int k = 0; k < 200; k++) {
            anyCall();
        }
        oddity = 8;
        while (calls < 512) {
            anyCall();
        }
    }

    /** SURFACES close together, so that RAYS are thrown back, come to edges and to like t. */
    private void crowd(int many, int span) {
        for (int s = 0; s < many; s++) {
            int w = any(2, Math.min(8, span));
            int h = any(2, Math.min(8, span));
            call(SURFACE, any(0, 2), any(0, 2), any(0, span), any(0, span - w), any(0, span - h), w, h);
        }
    }

    private void maze() {
        int span = any(4, 12);
        crowd(any(3, 10), span);
        for (int k = 0; k < 230; k++) {
            int[] a = {any(0, span), any(0, span), any(0, span), any(-4, 4), any(-4, 4), any(-4, 4)};
            if (random.nextInt(4) == 0) {
                a[3] = any(-99, 99);
                a[4] = any(-99, 99);
            }
            call(RAY, a);
            call(BOUNCES, a);
            if (random.nextInt(10) == 0) {
                call(PAINT, any(0, 9), any(0, 20), any(0, 9));
            }
        }
    }

    /** THE BOARD in the middle, EYES on one side of it, WALLS and MIRRORS around: most is SEEN. */
    private void gallery() {
        int span = any(8, 14);
        int axis = any(0, 2);
        crowd(any(0, 3), span);
        call(SURFACE, 0, axis, any(11, 20), any(2, 8), any(2, 8), 8, 8);
        call(SURFACE, 0, axis, any(14, 20), any(2, 8), any(2, 8), 8, 8);
        call(SURFACE, any(0, 2), (axis + 1) % 3, any(10, 16), any(4, 8), any(4, 8), 8, 8);
        call(SURFACE, any(1, 2), (axis + 2) % 3, any(2, 8), any(4, 8), any(4, 8), 8, 8);
        int w = any(1, 4);
        int h = any(1, 4);
        int cells = (int) call(BOARD, axis, any(8, 10), any(5, 8), any(5, 8), w, h);
        for (int e = 0; e < 4; e++) {
            int[] place = {any(4, 10), any(4, 10), any(4, 10)};
            place[axis] = any(0, 7);
            call(EYE, e, place[0], place[1], place[2]);
            call(SHEET, e, e % 3, cells + e);
            int top = any(2, 9);
            for (int i = 0; i < cells; i++) {
                call(PUT, e, i + e, any(0, top));
            }
            call(PICTURE, e, e, e % 3, e);
        }
        if (random.nextInt(2) == 0) {
            // EYES at one place want one CELL to be several COLOURS.
            int[] place = {any(5, 9), any(5, 9), any(5, 9)};
            place[axis] = any(0, 7);
            for (int e = 0; e < 4; e++) {
                call(EYE, e, place[0], place[1], place[2]);
            }
        }
        for (int k = 0; k < 14; k++) {
            call(PAINTING, any(0, 15));
            int set = any(0, 15);
            for (int what = 0; what < 4; what++) {
                call(WISHES, set, what);
            }
            call(IDLE, any(0, 15));
            int e = any(0, 3);
            int d = any(1, 9);
            for (int what = 0; what < 4; what++) {
                call(SWAY, e, d, what);
            }
            for (int cell = 0; cell < 3; cell++) {
                call(SEEN, e, any(0, cells - 1));
                call(WISH, e, any(0, cells - 1));
                call(COLOUR, any(0, 7), any(0, 63));
                call(PAINT, any(0, 7), any(0, 63), any(0, 9));
            }
            call(FEW, any(1, 9), any(0, 1));
            if (k % 5 == 4) {
                call(WASH);
                call(BOARD, any(0, 2), any(0, span), any(0, 6), any(0, 6), w, h);
                for (int other = 0; other < 4; other++) {
                    call(PICTURE, other, other, other % 3, any(0, other));
                }
            }
        }
    }

    private void darkroom() {
        int w = any(2, 5);
        int h = any(2, 4);
        call(SURFACE, any(0, 2), 2, any(3, 6), 8, 8, w, h);
        call(SURFACE, 0, 2, any(8, 14), 6, 6, 8, 8);
        // MIRRORS in the light's way fold it, so that several HOLES light the same.
        if (random.nextInt(4) > 0) {
            call(SURFACE, 1, 0, any(9, 7 + w), 6, 3, 8, 8);
        }
        if (random.nextInt(4) > 0) {
            call(SURFACE, 1, 1, any(9, 7 + h), 6, 3, 8, 8);
        }
        if (random.nextInt(2) == 0) {
            call(SURFACE, 2, 0, any(5, 14), 6, 6, 8, 8);
        }
        call(PLATE, 0);
        // With few HOURS more of the HOLES can do without one another.
        int hours = random.nextInt(3) > 0 ? any(1, 2) : any(1, 6);
        for (int hour = 0; hour < hours; hour++) {
            call(HOUR, any(-6, 6), any(-3, 3), any(3, 9));
        }
        for (int round = 0; round < 6; round++) {
            wantSome(hours, w * h);
            long fewest = call(FEWEST);
            int can = 0;
            for (int cell = 0; cell < w * h; cell++) {
                call(HOLE, cell);
                can += call(MAY, cell) == 1 ? 1 : 0;
            }
            answers.merge(fewest > 0 && fewest < can ? "fewest of more" : "fewest of as many", 1, Integer::sum);
            call(MANY, 5);
            if (random.nextInt(3) == 0) {
                call(WANT, any(0, hours - 1), 1, any(0, 63), any(0, 1));
                call(FEWEST);
                call(PAINT, 0, any(0, 5), any(0, 1));
            }
        }
    }

    /** WANTED comes to be what some HOLES light, so that these MAY be. */
    private void wantSome(int hours, int cells) {
        int holes = random.nextInt() | random.nextInt();
        for (int hour = 0; hour < hours; hour++) {
            int n = 0;
            call(SHEET, 0, 2, 64);
            for (int cell = 0; cell < cells; cell++) {
                if ((holes >> cell & 1) == 1 || random.nextInt(60) == 0) {
                    long end = call(LIT, hour, cell);
                    if (end >= 0 && n < 32) {
                        call(PUT, 0, 2 * n, (int) end / 100);
                        call(PUT, 0, 2 * n + 1, (int) end % 100);
                        n++;
                    }
                }
            }
            call(WANTED, hour, 0, 2, 0, n);
        }
    }
}
