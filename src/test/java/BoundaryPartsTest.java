/** The sentences of promises 27 to 36 that name a boundary case, and those of the words they use. */
public final class BoundaryPartsTest {
    private static final int LEAST = Integer.MIN_VALUE, MOST = Integer.MAX_VALUE;
    private static final int UNKNOWN = BentPictures.UNKNOWN, OUTSIDE = BentPictures.OUTSIDE, FULL = BentPictures.FULL;
    private static final long LOST = BentPictures.LOST;

    private BoundaryPartsTest() {
    }

    public static void main(String[] args) {
        all();
        Sentence.end(27, 36);
    }

    static void all() {
        sheet();
        sheetRefusals();
        lose();
        put();
        at();
        atFaults();
        tell();
        name();
        as();
        trace();
        fault();
        many();
    }

    private static void sheet() {
        Sentence.holds(27, "SHEETS 0 .. 3 have nothing (at first)", x -> {
            for (int k = 0; k < 4; k++) {
                x.due(LOST, "at", k, 0, 0).due(1, "fault").due(0, "lose", k).due(-11, "put", k, 0, 0);
            }
        });
        Sentence.holds(27, "or a row of 0 .. 64 numbers (0 at first) of a LANE", x -> {
            for (int lane = 0; lane < 3; lane++) {
                x.due(1, "sheet", lane, lane, 0).due(LOST, "at", lane, 0, lane).due(3, "fault");
                x.due(1, "sheet", lane, lane, 1).due(0, "at", lane, 0, lane).due(LOST, "at", lane, 1, lane);
                x.due(1, "sheet", lane, lane, 64).due(LOST, "at", lane, 64, lane).due(3, "fault");
                for (int i = 0; i < 64; i++) {
                    x.due(0, "at", lane, i, lane);
                }
            }
        });
        Sentence.holds(27, "A SHEET gets a new row: 1.", x -> {
            // What it had goes, longer or shorter, of the same LANE or of another.
            x.row(0, 7, 8, 9).due(1, "sheet", 0, 2, 3);
            for (int i = 0; i < 3; i++) {
                x.due(0, "at", 0, i, 2).does("put", 0, i, 5);
            }
            x.due(1, "sheet", 0, 2, 1).due(0, "at", 0, 0, 2).due(LOST, "at", 0, 1, 2).due(1, "sheet", 0, 0, 3);
            x.due(0, "at", 0, 2, 0).due(LOST, "at", 0, 2, 2).due(2, "fault").due(1, "sheet", 0, 1, 0);
            x.due(-13, "put", 0, 0, 1).does("lose", 0).due(1, "sheet", 0, 2, 2).due(0, "at", 0, 1, 2);
        });
        Sentence.holds(27, "SHEETS 0 .. 3", x -> {
            // Each has its own row.
            for (int k = 0; k < 4; k++) {
                x.does("sheet", k, k % 3, k + 1).does("put", k, k, 10 + k);
            }
            for (int k = 0; k < 4; k++) {
                x.due(10 + k, "at", k, k, k % 3).due(LOST, "at", k, k + 1, k % 3);
            }
        });
    }

    private static void sheetRefusals() {
        Sentence.holds(27, "UNKNOWN; OUTSIDE: lane, n above 64; SIZE.", x -> {
            for (int wrong : new int[] {-1, 4, LEAST, MOST}) {
                x.due(-14, "sheet", 0, 0, -1).due(4, "fault").due(UNKNOWN, "sheet", wrong, 0, 0).due(0, "fault");
                x.due(UNKNOWN, "sheet", wrong, 3, 0).due(UNKNOWN, "sheet", wrong, 0, -1);
                x.due(UNKNOWN, "sheet", wrong, 0, 65);
            }
            for (int k = 0; k < 4; k++) {
                x.due(1, "sheet", k, 0, 0);
            }
        });
        Sentence.holds(27, "OUTSIDE: lane, n above 64; SIZE.", x -> {
            x.row(0, 6);
            for (int wrong : new int[] {-1, 3, LEAST, MOST}) {
                x.due(-14, "sheet", 0, 0, -1).due(OUTSIDE, "sheet", 0, wrong, 1).due(0, "fault");
                x.due(OUTSIDE, "sheet", 0, wrong, -1).due(0, "fault").due(OUTSIDE, "sheet", 0, wrong, 65);
            }
            for (int lane = 0; lane < 3; lane++) {
                x.due(OUTSIDE, "sheet", 0, lane, 65).due(OUTSIDE, "sheet", 0, lane, MOST).due(0, "fault");
            }
            x.due(6, "at", 0, 0, 2).due(1, "sheet", 0, 2, 64);
        });
        Sentence.holds(27, "4 SIZE (a length below 0)", x -> {
            x.row(0, 6);
            for (int n : new int[] {-1, -64, -65, LEAST, LEAST + 1}) {
                for (int lane = 0; lane < 3; lane++) {
                    x.due(-14, "sheet", 0, lane, n).due(4, "fault").due(6, "at", 0, 0, 2);
                }
            }
            x.due(-14, "sheet", 1, 0, -1).due(0, "lose", 1);
        });
    }

    private static void lose() {
        Sentence.holds(28, "A SHEET has nothing: 1; 0: it had nothing. UNKNOWN.", x -> {
            for (int k = 0; k < 4; k++) {
                x.due(0, "lose", k).does("sheet", k, 0, 0).due(1, "lose", k).due(0, "lose", k);
                x.does("sheet", k, 2, 64).due(1, "lose", k).due(0, "lose", k).due(-11, "put", k, 0, 0);
            }
            for (int wrong : new int[] {-1, 4, LEAST, MOST}) {
                x.due(UNKNOWN, "lose", wrong);
            }
        });
        Sentence.holds(28, "A SHEET has nothing", x -> {
            // Nothing has no LANE: it is no CAST, whatever it was.
            x.row(1, 3, 4).row(2, 5).does("lose", 1);
            for (int lane = 0; lane < 3; lane++) {
                x.due(LOST, "at", 1, 0, lane).due(1, "fault");
            }
            x.due(5, "at", 2, 0, 2).does("sheet", 1, 2, 2).due(0, "at", 1, 0, 2).due(0, "at", 1, 1, 2);
        });
    }

    private static void put() {
        Sentence.holds(29, "what comes to a cell of it is cut to its LANE (with its sign)", x -> {
            int[][] bytes = {{127, 127}, {128, -128}, {255, -1}, {256, 0}, {-128, -128}, {-129, 127}, {MOST, -1}, {LEAST, 0}};
            int[][] shorts = {{128, 128}, {32767, 32767}, {32768, -32768}, {65535, -1}, {65536, 0}, {-32768, -32768},
                {-32769, 32767}, {MOST, -1}, {LEAST, 0}};
            int[][] ints = {{32768, 32768}, {-32769, -32769}, {65536, 65536}, {MOST, MOST}, {LEAST, LEAST}, {-1, -1}};
            int[][][] lanes = {bytes, shorts, ints};
            for (int lane = 0; lane < 3; lane++) {
                x.does("sheet", 0, lane, 1);
                for (int[] pair : lanes[lane]) {
                    x.due(1, "put", 0, 0, pair[0]).due(pair[1], "at", 0, 0, lane);
                }
            }
        });
        Sentence.holds(29, "Cell i of a SHEET becomes v: 1. UNKNOWN; NULL; INDEX.", x -> {
            for (int wrong : new int[] {-1, 4, LEAST, MOST}) {
                x.due(-11, "put", 0, 0, 1).due(1, "fault").due(UNKNOWN, "put", wrong, 0, 1).due(0, "fault");
                x.due(UNKNOWN, "put", wrong, -1, 1);
            }
            for (int i : new int[] {0, -1, 64, LEAST, MOST}) {
                x.due(-11, "put", 3, i, 1).due(1, "fault");
            }
            x.due(0, "lose", 3);
        });
        Sentence.holds(29, "NULL; INDEX.", x -> {
            for (int lane = 0; lane < 3; lane++) {
                x.does("sheet", lane, lane, lane);
                for (int wrong : new int[] {-1, lane, lane + 1, 64, LEAST, MOST}) {
                    x.due(-13, "put", lane, wrong, 9).due(3, "fault");
                }
            }
            x.due(1, "put", 1, 0, 1).due(0, "fault").due(1, "put", 2, 1, 1).due(0, "at", 2, 0, 2).does("sheet", 3, 2, 64);
            x.due(1, "put", 3, 63, 9).due(-13, "put", 3, 64, 9).due(9, "at", 3, 63, 2).due(0, "at", 3, 62, 2);
        });
    }

    private static void at() {
        Sentence.holds(30, "Cell i of what a SHEET has, taken as a row of a LANE.", x -> {
            x.rowOf(0, 0, 1, 2).rowOf(1, 1, 300, -300).row(2, MOST, LEAST);
            x.due(1, "at", 0, 0, 0).due(2, "at", 0, 1, 0).due(300, "at", 1, 0, 1).due(-300, "at", 1, 1, 1);
            x.due(MOST, "at", 2, 0, 2).due(LEAST, "at", 2, 1, 2).due(0, "fault");
        });
        Sentence.holds(30, "LOST: UNKNOWN, OUTSIDE: lane", x -> {
            x.row(0, 5).does("sheet", 1, 0, 1);
            for (int wrong : new int[] {-1, 4, LEAST, MOST}) {
                x.due(LOST, "at", 0, 0, 0).due(2, "fault").due(LOST, "at", wrong, 0, 0).due(0, "fault");
                x.due(LOST, "at", 0, 1, 2).due(3, "fault").due(LOST, "at", wrong, 0, 3).due(0, "fault");
            }
            for (int wrong : new int[] {-1, 3, LEAST, MOST}) {
                x.due(LOST, "at", 0, 1, 2).due(3, "fault").due(LOST, "at", 0, 0, wrong).due(0, "fault");
                x.due(LOST, "at", 0, 9, wrong).due(0, "fault").due(LOST, "at", 3, 0, wrong).due(0, "fault");
            }
            x.due(5, "at", 0, 0, 2).due(0, "fault");
        });
        Sentence.holds(30, "(LOST, where a long is answered, as for refusals)", x -> {
            // An int may be anything, so that LOST alone is none of them; what is least is no LOST.
            x.row(0, LEAST).due(LEAST, "at", 0, 0, 2).due(LOST, "at", 0, 1, 2).due(LOST, "at", 1, 0, 2);
            x.due(LOST, "at", 4, 0, 2).due(LOST, "at", 0, 0, 3).due(LOST, "at", 0, 0, 1);
        });
    }

    private static void atFaults() {
        Sentence.holds(30, "FAULTS CAST (nothing is no CAST), NULL, INDEX.", x -> {
            for (int lane = 0; lane < 3; lane++) {
                x.due(LOST, "at", 3, 0, lane).due(1, "fault").due(LOST, "at", 3, -1, lane).due(1, "fault");
                x.does("sheet", lane, lane, 1);
            }
            for (int has = 0; has < 3; has++) {
                for (int lane = 0; lane < 3; lane++) {
                    x.due(has == lane ? 0 : LOST, "at", has, 0, lane).due(has == lane ? 0 : 2, "fault");
                    x.due(LOST, "at", has, 1, lane).due(has == lane ? 3 : 2, "fault");
                    x.due(LOST, "at", has, -1, lane).due(has == lane ? 3 : 2, "fault");
                }
            }
        });
        Sentence.holds(30, "2 CAST (it is of another LANE, kind)", x -> {
            // A row of no numbers has its LANE, too.
            for (int has = 0; has < 3; has++) {
                x.does("sheet", 0, has, 0);
                for (int lane = 0; lane < 3; lane++) {
                    x.due(LOST, "at", 0, 0, lane).due(has == lane ? 3 : 2, "fault");
                }
            }
        });
        Sentence.holds(30, "1 NULL (there is nothing)", x -> {
            x.due(LOST, "at", 0, 0, 0).due(1, "fault").does("sheet", 0, 0, 0).due(LOST, "at", 0, 0, 0).due(3, "fault");
            x.does("lose", 0).due(LOST, "at", 0, 0, 0).due(1, "fault");
        });
        Sentence.holds(30, "3 INDEX", x -> {
            x.does("sheet", 0, 0, 64);
            for (int wrong : new int[] {-1, 64, 65, LEAST, MOST}) {
                x.due(LOST, "at", 0, wrong, 0).due(3, "fault");
            }
            x.due(0, "at", 0, 0, 0).due(0, "fault").due(0, "at", 0, 63, 0).due(0, "fault");
        });
    }

    private static void tell() {
        Sentence.holds(31, "WALL (1): how many CELLS. MIRROR (2): what WALL's gives, and its AXIS. FAINT (3): what MIRROR's "
            + "gives, and what WALL's gives (MIRROR's left out).", x -> {
                x.does("surface", 0, 2, 0, 0, 0, 1, 1).does("surface", 0, 2, 0, 0, 0, 8, 8);
                x.due(1, "tell", 0).due(64, "tell", 1);
                for (int axis = 0; axis < 3; axis++) {
                    x.does("surface", 1, axis, 0, 0, 0, 8, 8).does("surface", 2, axis, 0, 0, 0, 8, 8);
                    x.due(64 + axis, "tell", 2 + 2 * axis).due(128 + axis, "tell", 3 + 2 * axis);
                }
                x.does("surface", 2, 0, 0, 0, 0, 1, 1).due(2, "tell", 8);
            });
        Sentence.holds(31, "by bodies that leave their number in TRACE", x -> {
            x.does("surface", 2, 2, 0, 0, 0, 1, 1).does("surface", 1, 2, 0, 0, 0, 1, 1).does("surface", 0, 2, 0, 0, 0, 1, 1);
            x.due(1, "tell", 2).due(1, "trace").due(3, "tell", 1).due(961 + 2 * 31 + 1, "trace");
            x.due(4, "tell", 0).due(traceOf(1, 2, 1, 3, 2, 1, 1), "trace");
        });
        Sentence.holds(31, "TELLING of a SURFACE. UNKNOWN.", x -> {
            x.due(UNKNOWN, "tell", 0).does("surface", 2, 0, 0, 0, 0, 1, 1);
            for (int wrong : new int[] {-1, 1, 9, 10, LEAST, MOST}) {
                x.due(UNKNOWN, "tell", wrong).due(0, "trace");
            }
        });
    }

    private static int traceOf(int... numbers) {
        int trace = 0;
        for (int number : numbers) {
            trace = 31 * trace + number;
        }
        return trace;
    }

    private static void name() {
        Sentence.holds(32, "NAMED by a lent body (4): its number; FAINT ones have their own (5): 60.", x -> {
            for (int s = 0; s < 10; s++) {
                x.does("surface", s % 3, 0, 0, 0, 0, 1, 1).due(s % 3 == 2 ? 60 : s, "name", s);
            }
            x.due(traceOf(4, 4, 5, 4, 4, 5, 4, 4, 5, 4), "trace");
        });
        Sentence.holds(32, "How it is NAMED. UNKNOWN.", x -> {
            x.due(UNKNOWN, "name", 0).does("surface", 2, 0, 0, 0, 0, 1, 1).due(60, "name", 0).due(5, "trace");
            for (int wrong : new int[] {-1, 1, 9, 10, 60, LEAST, MOST}) {
                x.due(UNKNOWN, "name", wrong).due(5, "trace");
            }
        });
    }

    private static void as() {
        Sentence.holds(33, "CAST: it is none (each is a WALL, too; a FAINT one is a MIRROR).", x -> {
            for (int kind = 0; kind < 3; kind++) {
                x.does("surface", kind, 0, 0, 0, 0, 1, 1);
                for (int as = 0; as < 3; as++) {
                    x.due(as <= kind ? 1 : -12, "as", kind, as).due(as <= kind ? 0 : 2, "fault");
                }
            }
            // A painted FAINT one is one all the same.
            x.does("paint", 2, 0, 1).due(1, "as", 2, 1).due(1, "as", 2, 2);
        });
        Sentence.holds(33, "A SURFACE, taken as one of a kind: 1. UNKNOWN; OUTSIDE; CAST", x -> {
            x.due(UNKNOWN, "as", 0, 0).does("surface", 0, 0, 0, 0, 0, 1, 1);
            for (int wrong : new int[] {-1, 1, 9, 10, LEAST, MOST}) {
                x.due(-12, "as", 0, 2).due(2, "fault").due(UNKNOWN, "as", wrong, 0).due(0, "fault");
                x.due(UNKNOWN, "as", wrong, 3);
            }
            for (int wrong : new int[] {-1, 3, LEAST, MOST}) {
                x.due(-12, "as", 0, 1).due(2, "fault").due(OUTSIDE, "as", 0, wrong).due(0, "fault");
            }
        });
    }

    private static void trace() {
        Sentence.holds(34, "TRACE (an int that wraps, 0 at first, becomes 31 times it and the number)", x -> {
            x.due(0, "trace").does("surface", 2, 0, 0, 0, 0, 1, 1);
            // Always 5: from the seventh on it is more than an int has room for.
            long exact = 0;
            for (int k = 0; k < 12; k++) {
                exact = 31 * exact + 5;
                x.due(60, "name", 0).due((int) exact, "trace");
            }
        });
        Sentence.holds(34, "an int that wraps", x -> {
            x.does("surface", 2, 0, 0, 0, 0, 1, 1);
            for (int k = 0; k < 6; k++) {
                x.does("name", 0);
            }
            // 147917280 and 31 times it and 5, less 4294967296.
            x.due(147917280, "trace").does("name", 0).due(4585435685L - 4294967296L, "trace");
        });
        Sentence.holds(34, "`int trace()`: TRACE.", x -> {
            // Neither what is refused nor another call leaves a number.
            x.does("surface", 1, 0, 0, 0, 0, 1, 1).does("tell", 0).due(63, "trace").due(UNKNOWN, "tell", 1);
            x.due(UNKNOWN, "name", -1).does("about", 0, 0).does("as", 0, 1).does("ray", 0, 0, 0, 1, 0, 0).due(63, "trace");
        });
    }

    private static void fault() {
        Sentence.holds(35, "0: it came to none, or was refused (0 ahead of any).", x -> {
            x.due(0, "fault").due(0, "fault").due(-11, "put", 0, 0, 0).due(1, "fault").due(1, "fault");
            x.due(1, "sheet", 0, 2, 1).due(0, "fault").due(-13, "put", 0, 1, 0).due(3, "fault").due(1, "put", 0, 0, 0);
            x.due(0, "fault").due(LOST, "at", 0, 0, 1).due(2, "fault").due(0, "at", 0, 0, 2).due(0, "fault");
            x.due(-14, "sheet", 0, 2, -1).due(4, "fault").due(OUTSIDE, "sheet", 0, 2, 65).due(0, "fault");
        });
        Sentence.holds(35, "The FAULT of the latest call that names one", x -> {
            // Those that name none leave it, whether they are refused or not.
            x.due(-11, "put", 0, 0, 0).does("surface", 1, 0, 0, 0, 0, 1, 1).does("hour", 1, 0, 0).does("board", 0, 0, 0, 0, 1, 1);
            x.due(OUTSIDE, "surface", 3, 0, 0, 0, 0, 1, 1).due(UNKNOWN, "about", 1, 0).due(UNKNOWN, "eye", 4, 0, 0, 0);
            x.due(UNKNOWN, "paint", 1, 0, 0).due(OUTSIDE, "ray", 0, 0, 0, 0, 0, 0).due(OUTSIDE, "wishes", 16, 0);
            x.due(UNKNOWN, "lose", 4).due(0, "lose", 0).does("tell", 0).does("name", 0).does("plate", 0).does("fewest");
            x.does("want", 0, 0, 0, 1).due(UNKNOWN, "want", 1, 0, 0, 1).does("wash").does("painting", 15).does("many", 0);
            x.does("sway", 0, 1, 0).does("few", 1, 0).does("lit", 0, 0).does("may", 0).does("hole", 0).does("trace");
            x.due(OUTSIDE, "many", 6).due(1, "fault");
        });
        Sentence.holds(35, "or was refused", x -> {
            // Each call that names FAULTS and is refused.
            x.does("surface", 0, 0, 0, 0, 0, 1, 1).does("hour", 1, 0, 0).row(0, 10, 10);
            Object[][] refused = {{"picture", 4, 0, 2, 0}, {"picture", 0, 0, 3, 0}, {"picture", 0, 0, 2, 0},
                {"wanted", 1, 0, 2, 0, 1}, {"wanted", 0, 0, 3, 0, 1}, {"wanted", 0, 0, 2, 0, 1}, {"sheet", 4, 0, 0},
                {"sheet", 0, 3, 0}, {"sheet", 0, 0, 65}, {"put", 4, 0, 0}, {"at", 4, 0, 0}, {"at", 0, 0, 3},
                {"as", 1, 0}, {"as", 0, 3}};
            for (Object[] call : refused) {
                int[] numbers = new int[call.length - 1];
                for (int k = 0; k < numbers.length; k++) {
                    numbers[k] = (Integer) call[k + 1];
                }
                x.due(-14, "sheet", 0, 0, -1).due(4, "fault").ask((String) call[0], numbers);
                x.due(0, "fault");
            }
        });
        Sentence.holds(35, "it answers -10 less it", x -> {
            x.due(-11, "put", 0, 0, 0).due(1, "fault").does("surface", 0, 0, 0, 0, 0, 1, 1).due(-12, "as", 0, 1);
            x.due(2, "fault").does("sheet", 0, 0, 0).due(-13, "put", 0, 0, 0).due(3, "fault").due(-14, "sheet", 0, 0, -1);
            x.due(4, "fault");
        });
    }

    private static void many() {
        Sentence.holds(36, "0 SURFACES, 1 their CELLS, 2 CELLS of THE BOARD, 3 HOURS, 4 CELLS that are not bare, "
            + "5 WANTED of all HOURS. OUTSIDE.", x -> {
                for (int wrong : new int[] {-1, 6, LEAST, MOST}) {
                    x.due(OUTSIDE, "many", wrong);
                }
                int[] first = {0, 0, 1, 0, 0, 0};
                for (int what = 0; what < 6; what++) {
                    x.due(first[what], "many", what);
                }
                // The most of each: ten SURFACES of 64, a BOARD of 64, six HOURS.
                for (int s = 0; s < 10; s++) {
                    x.does("surface", s % 3, 0, s, 0, 0, 8, 8);
                }
                x.does("board", 0, 0, 0, 0, 8, 8);
                for (int h = 0; h < 6; h++) {
                    x.does("hour", 1, 0, 0).does("want", h, 9, 63, 1);
                }
                x.does("paint", 0, 0, 1).does("paint", 9, 63, 1).does("paint", 2, 0, 1);
                x.due(FULL, "surface", 0, 0, 0, 0, 0, 1, 1).due(FULL, "hour", 1, 0, 0);
                int[] last = {10, 640, 64, 6, 3, 6};
                for (int what = 0; what < 6; what++) {
                    x.due(last[what], "many", what);
                }
            });
        Sentence.holds(36, "5 WANTED of all HOURS", x -> {
            // The like CELL at another HOUR is another.
            x.does("surface", 0, 0, 0, 0, 0, 8, 8).does("hour", 1, 0, 0).does("hour", 0, 1, 0).does("want", 0, 0, 0, 1);
            x.due(1, "many", 5).does("want", 1, 0, 0, 1).due(2, "many", 5).does("want", 0, 0, 0, 0).due(1, "many", 5);
            for (int cell = 0; cell < 64; cell++) {
                x.does("want", 0, 0, cell, 1);
            }
            x.due(65, "many", 5);
        });
    }
}
