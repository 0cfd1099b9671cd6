/** The sentences of promises 1 to 12 that name a boundary case, and those of the words they use. */
public final class BoundarySpaceTest {
    private static final int LEAST = Integer.MIN_VALUE, MOST = Integer.MAX_VALUE;
    private static final int UNKNOWN = BentPictures.UNKNOWN, OUTSIDE = BentPictures.OUTSIDE,
        STATE = BentPictures.STATE, FULL = BentPictures.FULL, NONE = BentPictures.NONE;

    private BoundarySpaceTest() {
    }

    public static void main(String[] args) {
        all();
        Sentence.end(1, 12);
    }

    static void all() {
        newObject();
        wholeObject();
        surfaceNumbers();
        surfaceKinds();
        about();
        board();
        eye();
        pictureCells();
        pictureRefusals();
        wishAndPaint();
        rayNumbers();
        rayCells();
        rayFirst();
        rayThrown();
        rayLost();
        bounces();
        seen();
    }

    private static void newObject() {
        Sentence.holds(1, "No SURFACES, HOURS, PLATE, SHEETS; THE BOARD of one CELL.", x -> {
            x.due(0, "many", 0).due(0, "many", 1).due(UNKNOWN, "about", 0, 0).due(UNKNOWN, "tell", 0);
            x.due(0, "many", 3).due(UNKNOWN, "want", 0, 0, 0, 1);
            x.due(STATE, "fewest").due(STATE, "may", 0).due(NONE, "plate", -1);
            for (int k = 0; k < 4; k++) {
                x.due(-11, "put", k, 0, 0).due(0, "lose", k);
            }
            x.due(1, "many", 2).due(0, "wish", 0, 0).due(UNKNOWN, "wish", 0, 1);
        });
        Sentence.holds(1, "(across 2 at 20, from 0, 0, 1 by 1 at first)", x -> {
            // Its middle is (1/2, 1/2, 20), so what goes through it from one corner comes to (1, 1) at the other end.
            x.does("surface", 0, 2, 40, 0, 0, 8, 8).does("surface", 0, 2, 0, 0, 0, 8, 8);
            x.due(9, "seen", 0, 0).does("eye", 0, 0, 0, 40).due(109, "seen", 0, 0);
        });
        Sentence.holds(1, "which have a PLACE each (0, 0, 0 at first)", x -> {
            x.does("surface", 0, 2, 40, 0, 0, 8, 8);
            for (int e = 0; e < 4; e++) {
                x.due(9, "seen", e, 0);
            }
        });
        Sentence.holds(1, "with a PICTURE (a COLOUR for each CELL, bare at first) for each of EYES 0 .. 3", x -> {
            for (int e = 0; e < 4; e++) {
                x.due(0, "wish", e, 0);
            }
            x.due(UNKNOWN, "wish", -1, 0).due(UNKNOWN, "wish", 4, 0).due(0, "wishes", 15, 0);
        });
    }

    private static void wholeObject() {
        Sentence.holds(1, "UNKNOWN = -1, OUTSIDE = -2, STATE = -3, FULL = -4, SPENT = -6, NONE = -9", x -> {
            x.due(-1, "about", 0, 0).due(-2, "many", 6).due(-3, "fewest").due(-9, "plate", -1);
            for (int s = 0; s < 10; s++) {
                x.does("surface", 0, 0, 0, 0, 0, 8, 8);
            }
            x.due(-4, "surface", 0, 0, 0, 0, 0, 1, 1).does("plate", 0).due(-6, "fewest");
            x.due(Long.MIN_VALUE, "at", 0, 0, 0).due(Long.MIN_VALUE, "at", 4, 0, 0);
        });
        Sentence.holds(1, "An object is used for at most 512 calls after it has been made", x -> {
            // The last of them is answered as the first; what takes the most room goes on all the time.
            x.does("surface", 2, 2, 0, 0, 0, 8, 8).does("hour", 1, 1, 1);
            while (x.callsMade() < 508) {
                x.due(64, "board", 2, 20, 0, 0, 8, 8).due(1, "sheet", 0, 2, 64);
            }
            x.due(0, "picture", 0, 0, 2, 0).due(1, "put", 0, 63, 9).due(1, "picture", 0, 0, 2, 0).due(9, "wish", 0, 63);
        });
        Sentence.holds(1, "`BentPictures()`: No SURFACES, HOURS, PLATE, SHEETS; THE BOARD of one CELL.", x -> {
            // Another object has nothing of the first one's, nor does the first one lose anything by it.
            x.does("surface", 0, 0, 0, 0, 0, 2, 2).does("plate", 0).does("hour", 1, 0, 0).does("want", 0, 0, 0, 1);
            x.does("board", 0, 0, 0, 0, 2, 1).show(0, 1, 2).does("tell", 0).due(-13, "put", 3, 2, 0);
            Run other = x.another().due(0, "fault").due(0, "trace").due(NONE, "plate", -1).due(0, "lose", 3);
            int[] due = {0, 0, 1, 0, 0, 0};
            for (int what = 0; what < 6; what++) {
                other.due(due[what], "many", what);
            }
            other.due(0, "wish", 0, 0).due(UNKNOWN, "wish", 0, 1);
            x.due(3, "fault").due(1, "trace").due(2, "wish", 0, 1).due(1, "many", 5).due(1, "lose", 3).due(0, "plate", -1);
        });
    }

    private static void surfaceNumbers() {
        Sentence.holds(2, "A SURFACE: its number.", x -> x.due(0, "surface", 2, 2, 40, 39, 39, 1, 1));
        Sentence.holds(2, "SURFACES, 10 ever, numbered from 0 on as they come", x -> {
            for (int s = 0; s < 10; s++) {
                x.due(s, "surface", s % 3, s % 3, s, s, s, 1, 1);
            }
            x.due(FULL, "surface", 0, 0, 0, 0, 0, 1, 1).due(FULL, "surface", 2, 2, 40, 32, 32, 8, 8);
            x.due(10, "many", 0).due(10, "many", 1).due(UNKNOWN, "about", 10, 0);
        });
        Sentence.holds(2, "A FLAT lies across an AXIS, at c (0 .. 40)", x -> {
            for (int axis = 0; axis < 3; axis++) {
                x.due(OUTSIDE, "surface", 0, axis, -1, 0, 0, 1, 1).due(OUTSIDE, "surface", 0, axis, 41, 0, 0, 1, 1);
                x.due(OUTSIDE, "surface", 0, axis, LEAST, 0, 0, 1, 1);
                x.due(OUTSIDE, "surface", 0, axis, MOST, 0, 0, 1, 1);
                x.due(2 * axis, "surface", 0, axis, 0, 0, 0, 1, 1);
                x.due(2 * axis + 1, "surface", 0, axis, 40, 0, 0, 1, 1);
            }
        });
        Sentence.holds(2, "w, h 1 .. 8, all within 0 .. 40", x -> {
            for (int wrong : new int[] {0, 9, -1, -8, LEAST, MOST}) {
                x.due(OUTSIDE, "surface", 0, 0, 0, 0, 0, wrong, 1).due(OUTSIDE, "surface", 0, 0, 0, 0, 0, 1, wrong);
            }
            x.due(0, "surface", 0, 0, 0, 0, 0, 1, 8).due(1, "surface", 0, 0, 0, 0, 0, 8, 1).due(16, "many", 1);
        });
        Sentence.holds(2, "all within 0 .. 40", x -> {
            x.due(0, "surface", 0, 0, 0, 0, 0, 8, 8).due(1, "surface", 0, 0, 0, 32, 32, 8, 8);
            x.due(2, "surface", 0, 0, 0, 39, 0, 1, 1).due(3, "surface", 0, 0, 0, 0, 39, 1, 1);
            for (int wrong : new int[] {-1, 33, 40, 41, LEAST, LEAST + 7, MOST - 7, MOST}) {
                x.due(OUTSIDE, "surface", 0, 0, 0, wrong, 0, 8, 1).due(OUTSIDE, "surface", 0, 0, 0, 0, wrong, 1, 8);
            }
            x.due(OUTSIDE, "surface", 0, 0, 0, 40, 0, 1, 1).due(OUTSIDE, "surface", 0, 0, 0, 0, 40, 1, 1);
            x.due(OUTSIDE, "surface", 0, 0, 0, -1, 0, 1, 1).due(OUTSIDE, "surface", 0, 0, 0, 0, -1, 1, 1);
            // What is narrow enough one way may still be too wide the other way.
            x.due(OUTSIDE, "surface", 0, 0, 0, 39, 0, 2, 1).due(4, "surface", 0, 0, 0, 39, 0, 1, 8);
            x.due(OUTSIDE, "surface", 0, 0, 0, 0, 39, 1, 2).due(5, "surface", 0, 0, 0, 0, 39, 8, 1);
        });
    }

    private static void surfaceKinds() {
        Sentence.holds(2, "are FLATS of a kind: 0 WALL; 1 MIRROR, a WALL; 2 FAINT, a MIRROR.", x -> {
            for (int wrong : new int[] {-1, 3, LEAST, MOST}) {
                x.due(OUTSIDE, "surface", wrong, 0, 0, 0, 0, 1, 1);
            }
            for (int kind = 0; kind < 3; kind++) {
                x.due(kind, "surface", kind, 0, 0, 0, 0, 1, 1).due(kind, "about", kind, 0);
            }
        });
        Sentence.holds(2, "AXES 0 x, 1 y, 2 z.", x -> {
            for (int wrong : new int[] {-1, 3, LEAST, MOST}) {
                x.due(OUTSIDE, "surface", 0, wrong, 0, 0, 0, 1, 1);
            }
            for (int axis = 0; axis < 3; axis++) {
                x.due(axis, "surface", 0, axis, 0, 0, 0, 1, 1).due(axis, "about", axis, 1);
            }
        });
        Sentence.holds(2, "OUTSIDE: kind, axis, c, u, v, w, h; FULL.", x -> {
            for (int s = 0; s < 10; s++) {
                x.does("surface", 0, 0, 0, 0, 0, 1, 1);
            }
            x.due(OUTSIDE, "surface", 3, 0, 0, 0, 0, 1, 1).due(OUTSIDE, "surface", 0, 3, 0, 0, 0, 1, 1);
            x.due(OUTSIDE, "surface", 0, 0, 41, 0, 0, 1, 1).due(OUTSIDE, "surface", 0, 0, 0, -1, 0, 1, 1);
            x.due(OUTSIDE, "surface", 0, 0, 0, 0, -1, 1, 1).due(OUTSIDE, "surface", 0, 0, 0, 0, 0, 9, 1);
            x.due(OUTSIDE, "surface", 0, 0, 0, 0, 0, 1, 0).due(FULL, "surface", 0, 0, 0, 0, 0, 1, 1);
        });
        Sentence.holds(2, "take COLOURS (bare at first)", x -> {
            for (int kind = 0; kind < 3; kind++) {
                x.does("surface", kind, 0, 0, 0, 0, 8, 8);
                x.due(0, "about", kind, 7).due(0, "colour", kind, 0).due(0, "colour", kind, 63);
            }
            x.due(0, "many", 4);
        });
    }

    private static void about() {
        Sentence.holds(3, "0 kind, 1 AXIS, 2 c, 3 u, 4 v, 5 w, 6 h, 7 how many CELLS are not bare.", x -> {
            x.does("surface", 0, 0, 0, 0, 0, 1, 1).does("surface", 2, 2, 40, 32, 33, 8, 7);
            int[][] due = {{0, 0, 0, 0, 0, 1, 1, 0}, {2, 2, 40, 32, 33, 8, 7, 0}};
            for (int s = 0; s < 2; s++) {
                for (int what = 0; what < 8; what++) {
                    x.due(due[s][what], "about", s, what);
                }
                for (int wrong : new int[] {-1, 8, LEAST, MOST}) {
                    x.due(OUTSIDE, "about", s, wrong);
                }
            }
        });
        Sentence.holds(3, "7 how many CELLS are not bare", x -> {
            x.does("surface", 0, 0, 0, 0, 0, 8, 8).does("surface", 0, 0, 0, 0, 0, 2, 2);
            for (int cell = 0; cell < 64; cell++) {
                x.due(cell, "about", 0, 7).does("paint", 0, cell, 1 + cell % 9);
            }
            x.due(64, "about", 0, 7).due(0, "about", 1, 7).does("paint", 0, 63, 0).due(63, "about", 0, 7);
        });
        Sentence.holds(3, "UNKNOWN; OUTSIDE.", x -> {
            x.due(UNKNOWN, "about", 0, 0).does("surface", 0, 0, 0, 0, 0, 1, 1).due(0, "about", 0, 0);
            for (int wrong : new int[] {-1, 1, 9, 10, LEAST, MOST}) {
                x.due(UNKNOWN, "about", wrong, 0).due(UNKNOWN, "about", wrong, 8).due(UNKNOWN, "about", wrong, -1);
            }
        });
    }

    private static void board() {
        Sentence.holds(4, "THE BOARD becomes a FLAT; all PICTURES are bare: how many CELLS.", x -> {
            x.due(1, "board", 0, 0, 0, 0, 1, 1).due(64, "board", 2, 40, 32, 32, 8, 8).due(64, "many", 2);
            x.due(0, "wish", 3, 63).due(UNKNOWN, "wish", 3, 64).due(6, "board", 1, 0, 0, 0, 2, 3);
            x.due(UNKNOWN, "wish", 0, 6).due(0, "wish", 0, 5);
        });
        Sentence.holds(4, "all PICTURES are bare", x -> {
            for (int e = 0; e < 4; e++) {
                x.show(e, 9);
            }
            // The same FLAT once more is a new BOARD, too.
            x.due(4, "wishes", 15, 0).due(1, "board", 2, 20, 0, 0, 1, 1).due(0, "wishes", 15, 0);
            x.does("board", 2, 20, 0, 0, 2, 1).show(1, 5, 6).does("board", 2, 20, 0, 0, 1, 1);
            x.due(0, "wish", 1, 0).does("board", 2, 20, 0, 0, 2, 1).due(0, "wish", 1, 1);
        });
        Sentence.holds(4, "`int board(int axis, int c, int u, int v, int w, int h)`: THE BOARD becomes a FLAT; "
            + "all PICTURES are bare: how many CELLS. OUTSIDE.", x -> {
                x.show(2, 7);
                x.due(OUTSIDE, "board", -1, 0, 0, 0, 1, 1).due(OUTSIDE, "board", 3, 0, 0, 0, 1, 1);
                x.due(OUTSIDE, "board", 0, -1, 0, 0, 1, 1).due(OUTSIDE, "board", 0, 41, 0, 0, 1, 1);
                x.due(OUTSIDE, "board", 0, 0, -1, 0, 1, 1).due(OUTSIDE, "board", 0, 0, 40, 0, 1, 1);
                x.due(OUTSIDE, "board", 0, 0, 0, -1, 1, 1).due(OUTSIDE, "board", 0, 0, 0, 40, 1, 1);
                x.due(OUTSIDE, "board", 0, 0, 33, 0, 8, 1).due(OUTSIDE, "board", 0, 0, 0, 33, 1, 8);
                x.due(OUTSIDE, "board", 0, 0, 0, 0, 0, 1).due(OUTSIDE, "board", 0, 0, 0, 0, 9, 1);
                x.due(OUTSIDE, "board", 0, 0, 0, 0, 1, 0).due(OUTSIDE, "board", 0, 0, 0, 0, 1, 9);
                x.due(OUTSIDE, "board", 0, 0, MOST, 0, 8, 1).due(OUTSIDE, "board", 0, 0, 0, MOST, 1, 8);
                x.due(1, "many", 2).due(7, "wish", 2, 0);
            });
        Sentence.holds(4, "THE BOARD is a FLAT that lies in nobody's way", x -> {
            x.does("board", 0, 5, 0, 0, 8, 8).does("surface", 0, 0, 9, 0, 0, 8, 8).does("surface", 0, 0, 1, 0, 0, 8, 8);
            x.due(9, "ray", 4, 1, 1, 1, 0, 0).due(0, "bounces", 4, 1, 1, 1, 0, 0).due(109, "ray", 6, 1, 1, -1, 0, 0);
            x.does("eye", 0, 4, 0, 0).due(18, "seen", 0, 0);
            x.does("plate", 1).does("hour", 1, 0, 0).due(0, "lit", 0, 0);
        });
    }

    private static void eye() {
        Sentence.holds(5, "SPACE has places (x, y, z), 0 .. 40 each", x -> {
            int[] place = new int[3];
            for (int axis = 0; axis < 3; axis++) {
                for (int wrong : new int[] {-1, 41, LEAST, MOST}) {
                    place[axis] = wrong;
                    x.due(OUTSIDE, "eye", 0, place[0], place[1], place[2]);
                }
                for (int right : new int[] {40, 0}) {
                    place[axis] = right;
                    x.due(1, "eye", 0, place[0], place[1], place[2]);
                }
            }
            x.due(1, "eye", 3, 40, 40, 40).due(31, "sway", 3, 9, 1).due(31, "sway", 3, 9, 2).due(31, "sway", 3, 9, 3);
        });
        Sentence.holds(5, "An EYE's PLACE: 1. UNKNOWN; OUTSIDE.", x -> {
            for (int wrong : new int[] {-1, 4, LEAST, MOST}) {
                x.due(UNKNOWN, "eye", wrong, 0, 0, 0).due(UNKNOWN, "eye", wrong, 41, 0, 0);
            }
            for (int e = 0; e < 4; e++) {
                x.due(1, "eye", e, 10 + e, 20 + e, 30 + e).due(OUTSIDE, "eye", e, 0, 0, 41);
            }
            // With no WISHES the first place of all is the worst: less by d along each AXIS.
            for (int e = 0; e < 4; e++) {
                x.due(9 + e, "sway", e, 1, 1).due(19 + e, "sway", e, 1, 2).due(29 + e, "sway", e, 1, 3);
            }
        });
    }

    private static void pictureCells() {
        Sentence.holds(6, "from i on, one for each CELL: how many are not bare.", x -> {
            x.row(0, 9, 0, 0, 3, 4, 5);
            x.due(1, "picture", 0, 0, 2, 0).due(0, "picture", 0, 0, 2, 1).due(1, "picture", 0, 0, 2, 5);
            x.does("board", 0, 0, 0, 0, 2, 2);
            x.due(2, "picture", 0, 0, 2, 0).due(9, "wish", 0, 0).due(3, "wish", 0, 3);
            x.due(3, "picture", 1, 0, 2, 2).due(0, "wish", 1, 0).due(5, "wish", 1, 3);
            x.due(-13, "picture", 1, 0, 2, 3);
        });
        Sentence.holds(6, "The PICTURE of an EYE becomes cells of a SHEET, taken as a row of a LANE", x -> {
            // What happens to the SHEET later is no matter, and the PICTURE of another EYE is another.
            x.row(0, 5).due(1, "picture", 0, 0, 2, 0).does("put", 0, 0, 6).due(5, "wish", 0, 0);
            x.due(1, "picture", 3, 0, 2, 0).does("lose", 0).due(5, "wish", 0, 0).due(6, "wish", 3, 0).due(0, "wish", 1, 0);
            x.does("sheet", 0, 2, 1).due(0, "picture", 3, 0, 2, 0).due(0, "wish", 3, 0).due(5, "wish", 0, 0);
        });
        Sentence.holds(6, "one for each CELL", x -> {
            // The most of both: a BOARD of 64 CELLS, a SHEET of 64 cells.
            int[] colours = new int[64];
            for (int i = 0; i < 64; i++) {
                colours[i] = 1 + i % 9;
            }
            x.does("board", 2, 0, 0, 0, 8, 8).rowOf(0, 0, colours);
            x.due(64, "picture", 3, 0, 0, 0).due(1, "wish", 3, 63).due(-13, "picture", 3, 0, 0, 1);
            x.does("sheet", 0, 0, 63).due(-13, "picture", 3, 0, 0, 0).due(1, "wish", 3, 63);
            x.does("sheet", 0, 0, 64).due(0, "picture", 3, 0, 0, 0).due(0, "wish", 3, 63);
        });
        Sentence.holds(6, "INDEX: not all cells are there; OUTSIDE: a COLOUR.", x -> {
            x.does("board", 0, 0, 0, 0, 2, 1).does("sheet", 0, 1, 0);
            x.due(-13, "picture", 0, 0, 1, 0).due(-13, "picture", 0, 0, 1, -1).due(-13, "picture", 0, 0, 1, 1);
            x.does("sheet", 0, 1, 1).due(-13, "picture", 0, 0, 1, 0);
            x.does("sheet", 0, 1, 2).due(0, "picture", 0, 0, 1, 0).due(0, "fault");
            for (int wrong : new int[] {-1, -2, 1, 2, 3, LEAST, MOST, MOST - 1, LEAST + 1}) {
                x.due(-13, "picture", 0, 0, 1, wrong).due(3, "fault");
            }
            // INDEX is told ahead of a COLOUR.
            x.does("put", 0, 1, 10).due(-13, "picture", 0, 0, 1, 1).due(OUTSIDE, "picture", 0, 0, 1, 0);
        });
        Sentence.holds(6, "OUTSIDE: a COLOUR.", x -> {
            x.does("board", 0, 0, 0, 0, 2, 2).row(0, 10, 9, 0, 9, 1, -1).show(0, 4, 4, 4, 4);
            // The cells beside those that are taken may be anything.
            x.due(OUTSIDE, "picture", 0, 0, 2, 0).due(0, "fault").due(OUTSIDE, "picture", 0, 0, 2, 2).due(0, "fault");
            for (int cell = 0; cell < 4; cell++) {
                x.due(4, "wish", 0, cell);
            }
            x.due(3, "picture", 0, 0, 2, 1).due(9, "wish", 0, 0).due(1, "wish", 0, 3);
            for (int wrong : new int[] {-1, 10, LEAST, MOST, 256, 265}) {
                x.does("put", 0, 2, wrong).due(OUTSIDE, "picture", 0, 0, 2, 1);
            }
            // What was cut to its LANE is a COLOUR again.
            x.rowOf(0, 1, 256, 265, -247, 1).due(3, "picture", 1, 1, 0, 0).due(0, "wish", 1, 0).due(9, "wish", 1, 2);
        });
    }

    private static void pictureRefusals() {
        Sentence.holds(6, "UNKNOWN; OUTSIDE: lane; FAULTS CAST (nothing is no CAST), NULL, INDEX", x -> {
            x.row(0, 1);
            for (int wrong : new int[] {-1, 4, LEAST, MOST}) {
                x.due(UNKNOWN, "picture", wrong, 0, 2, 0).due(UNKNOWN, "picture", 0, wrong, 2, 0);
                x.due(UNKNOWN, "picture", wrong, 0, 3, 0).due(UNKNOWN, "picture", 0, wrong, -1, 0);
                x.due(UNKNOWN, "picture", wrong, 1, 2, 0).due(0, "fault");
            }
            x.due(-13, "picture", 0, 0, 2, 1).due(3, "fault").due(UNKNOWN, "picture", 4, 0, 2, 0).due(0, "fault");
        });
        Sentence.holds(6, "OUTSIDE: lane; FAULTS CAST (nothing is no CAST), NULL", x -> {
            x.row(0, 1);
            for (int wrong : new int[] {-1, 3, LEAST, MOST}) {
                x.due(OUTSIDE, "picture", 0, 0, wrong, 0).due(OUTSIDE, "picture", 0, 0, wrong, 9);
                x.due(-11, "picture", 0, 1, 0, 0).due(OUTSIDE, "picture", 0, 1, wrong, 0).due(0, "fault");
            }
        });
        Sentence.holds(6, "FAULTS CAST (nothing is no CAST), NULL, INDEX", x -> {
            for (int lane = 0; lane < 3; lane++) {
                x.due(-11, "picture", 0, 3, lane, 0).due(1, "fault").due(-11, "picture", 0, 3, lane, -1);
                x.does("sheet", lane, lane, 1);
            }
            for (int has = 0; has < 3; has++) {
                for (int lane = 0; lane < 3; lane++) {
                    x.due(has == lane ? 0 : -12, "picture", 0, has, lane, 0).due(has == lane ? 0 : 2, "fault");
                    x.due(has == lane ? -13 : -12, "picture", 0, has, lane, 1).due(has == lane ? 3 : 2, "fault");
                }
            }
            x.does("lose", 0).due(-11, "picture", 0, 0, 0, 0).due(1, "fault");
        });
    }

    private static void wishAndPaint() {
        Sentence.holds(7, "COLOUR of a CELL in an EYE's PICTURE. UNKNOWN.", x -> {
            x.does("board", 0, 0, 0, 0, 3, 1).show(3, 9, 0, 1).due(9, "wish", 3, 0).due(0, "wish", 3, 1);
            x.due(1, "wish", 3, 2).due(0, "wish", 0, 0).due(UNKNOWN, "wish", 3, 3);
            for (int wrong : new int[] {-1, 4, LEAST, MOST}) {
                x.due(UNKNOWN, "wish", wrong, 0).due(UNKNOWN, "wish", 3, wrong);
            }
        });
        Sentence.holds(8, "A CELL of a SURFACE becomes a COLOUR: what it was.", x -> {
            x.does("surface", 0, 0, 0, 0, 0, 8, 8);
            x.due(0, "paint", 0, 0, 9).due(9, "paint", 0, 0, 9).due(9, "paint", 0, 0, 0).due(0, "paint", 0, 0, 0);
            x.due(0, "paint", 0, 63, 1).due(1, "paint", 0, 63, 2).due(2, "colour", 0, 63).due(1, "many", 4);
        });
        Sentence.holds(8, "COLOURS 0 (bare) .. 9.", x -> {
            x.does("surface", 0, 0, 0, 0, 0, 1, 1).does("paint", 0, 0, 5);
            for (int wrong : new int[] {-1, 10, LEAST, MOST}) {
                x.due(OUTSIDE, "paint", 0, 0, wrong).due(5, "colour", 0, 0);
            }
        });
        Sentence.holds(8, "CELLS of WALLS and FAINT ones (not of kind 1) take COLOURS", x -> {
            for (int kind = 0; kind < 3; kind++) {
                x.does("surface", kind, 0, 0, 0, 0, 1, 1);
                x.due(kind == 1 ? STATE : 0, "paint", kind, 0, 4).due(kind == 1 ? 0 : 4, "colour", kind, 0);
            }
            x.due(2, "many", 4);
        });
        Sentence.holds(8, "UNKNOWN; OUTSIDE; STATE: it takes none.", x -> {
            x.does("surface", 1, 0, 0, 0, 0, 2, 3).does("surface", 0, 0, 0, 0, 0, 1, 1);
            x.due(STATE, "paint", 0, 0, 0).due(STATE, "paint", 0, 5, 9);
            x.due(OUTSIDE, "paint", 0, 0, 10).due(OUTSIDE, "paint", 0, 5, -1);
            for (int wrong : new int[] {-1, 6, LEAST, MOST}) {
                x.due(UNKNOWN, "paint", 0, wrong, 1).due(UNKNOWN, "paint", 0, wrong, 10);
                x.due(UNKNOWN, "paint", wrong, 0, 1).due(UNKNOWN, "paint", wrong, 0, 10);
            }
            x.due(UNKNOWN, "paint", 2, 0, 1).due(UNKNOWN, "paint", 1, 1, 1).due(0, "paint", 1, 0, 1);
        });
        Sentence.holds(9, "COLOUR of a CELL of a SURFACE (bare: 0). UNKNOWN.", x -> {
            x.does("surface", 2, 0, 0, 0, 0, 2, 3).does("surface", 1, 0, 0, 0, 0, 1, 1).does("paint", 0, 5, 9);
            x.due(9, "colour", 0, 5).due(0, "colour", 0, 4).due(0, "colour", 0, 0).due(0, "colour", 1, 0);
            for (int wrong : new int[] {-1, 6, LEAST, MOST}) {
                x.due(UNKNOWN, "colour", 0, wrong).due(UNKNOWN, "colour", wrong, 0);
            }
            x.due(UNKNOWN, "colour", 1, 1).due(UNKNOWN, "colour", 2, 0);
        });
    }

    private static void rayNumbers() {
        Sentence.holds(10, "OUTSIDE: the place is not 0 .. 40", x -> {
            x.does("surface", 0, 0, 20, 32, 32, 8, 8).does("surface", 0, 0, 21, 0, 0, 8, 8);
            int[] place = new int[3];
            for (int axis = 0; axis < 3; axis++) {
                for (int wrong : new int[] {-1, 41, LEAST, MOST}) {
                    place[axis] = wrong;
                    x.due(OUTSIDE, "ray", place[0], place[1], place[2], 1, 0, 0);
                }
                place[axis] = 0;
            }
            x.due(100, "ray", 0, 0, 0, 1, 0, 0).due(63, "ray", 40, 40, 40, -99, -1, -1);
        });
        Sentence.holds(10, "the direction not -99 .. 99 each, or all 0", x -> {
            x.does("surface", 0, 0, 20, 0, 0, 8, 8);
            x.due(OUTSIDE, "ray", 0, 0, 0, 0, 0, 0);
            int[] way = new int[3];
            for (int axis = 0; axis < 3; axis++) {
                for (int wrong : new int[] {-100, 100, LEAST, MOST}) {
                    way[axis] = wrong;
                    x.due(OUTSIDE, "ray", 0, 0, 0, way[0], way[1], way[2]);
                }
                for (int right : new int[] {-99, 99, -1, 1}) {
                    way[axis] = right;
                    x.due(axis == 0 && right > 0 ? 0 : NONE, "ray", 0, 0, 0, way[0], way[1], way[2]);
                }
                way[axis] = 0;
            }
            x.due(0, "ray", 40, 0, 0, -99, 0, 0).due(OUTSIDE, "ray", 40, 0, 0, -100, 0, 0);
        });
        Sentence.holds(10, "100 times the SURFACE and the CELL; NONE.", x -> {
            for (int s = 0; s < 10; s++) {
                x.does("surface", 0, 2, 2 + 4 * s, 0, 0, 8, 8);
            }
            x.due(NONE, "ray", 0, 0, 0, 0, 0, -1).due(0, "ray", 0, 0, 0, 0, 0, 1).due(63, "ray", 7, 7, 0, 0, 0, 1);
            x.due(900, "ray", 0, 0, 40, 0, 0, -1).due(963, "ray", 7, 7, 40, 0, 0, -1);
            x.due(NONE, "ray", 0, 0, 40, 0, 0, 1).due(101, "ray", 1, 0, 2, 0, 0, 1);
        });
    }

    private static void rayCells() {
        Sentence.holds(10, "CELL (i, j) from u + i up to u + i + 1, not quite, and likewise.", x -> {
            // At x 10, from (2, 3) to (6, 8). A 99th beside a line is beside it.
            x.does("surface", 0, 0, 10, 2, 3, 4, 5);
            x.due(0, "ray", 0, 2, 3, 1, 0, 0).due(19, "ray", 0, 5, 7, 1, 0, 0);
            x.due(NONE, "ray", 0, 6, 3, 1, 0, 0).due(NONE, "ray", 0, 2, 8, 1, 0, 0);
            x.due(3, "ray", 0, 6, 3, 99, -1, 0).due(16, "ray", 0, 2, 8, 99, 0, -1);
            x.due(NONE, "ray", 0, 2, 3, 99, -1, 0).due(NONE, "ray", 0, 2, 3, 99, 0, -1);
            x.due(2, "ray", 0, 5, 3, 99, -1, 0).due(12, "ray", 0, 2, 7, 99, 0, -1);
            x.due(0, "ray", 0, 1, 3, 10, 1, 0).due(NONE, "ray", 0, 1, 3, 99, 9, 0);
            x.due(0, "ray", 0, 2, 2, 10, 0, 1).due(NONE, "ray", 0, 2, 2, 99, 0, 9);
            x.due(NONE, "ray", 0, 5, 3, 10, 1, 0).due(3, "ray", 0, 5, 3, 99, 9, 0);
        });
        Sentence.holds(10, "and is in a CELL of it then", x -> {
            // It goes by a near FLAT to a far one, if it is beside the near one when it has that one's c.
            x.does("surface", 0, 0, 10, 2, 2, 1, 1).does("surface", 0, 0, 20, 0, 0, 8, 8);
            x.due(0, "ray", 0, 2, 2, 1, 0, 0).due(119, "ray", 0, 3, 2, 1, 0, 0).due(126, "ray", 0, 2, 3, 1, 0, 0);
            x.due(110, "ray", 0, 2, 1, 1, 0, 0).due(117, "ray", 0, 1, 2, 1, 0, 0).due(0, "ray", 0, 3, 3, 99, -1, -1);
            // At x 10 it is at (2, 2) exactly, at x 20 at (4, 4).
            x.due(0, "ray", 0, 0, 0, 5, 1, 1).due(136, "ray", 10, 2, 2, 5, 1, 1).due(NONE, "ray", 0, 0, 0, 2, 1, 1);
        });
        Sentence.holds(10, "it has w h CELLS, numbered w j + i (i along the first, j along the second)", x -> {
            // Across each AXIS a FLAT of 2 by 3 from 10, 20; the RAY goes along that AXIS.
            x.does("surface", 0, 0, 5, 10, 20, 2, 3).does("surface", 0, 1, 5, 10, 20, 2, 3);
            x.does("surface", 0, 2, 5, 10, 20, 2, 3);
            for (int cell = 0; cell < 6; cell++) {
                int i = 10 + cell % 2;
                int j = 20 + cell / 2;
                x.due(cell, "ray", 0, i, j, 1, 0, 0).due(100 + cell, "ray", i, 0, j, 0, 1, 0);
                x.due(200 + cell, "ray", i, j, 0, 0, 0, 1);
            }
            x.due(NONE, "ray", 0, 9, 20, 1, 0, 0).due(NONE, "ray", 0, 12, 20, 1, 0, 0);
            x.due(NONE, "ray", 10, 0, 19, 0, 1, 0).due(NONE, "ray", 10, 0, 23, 0, 1, 0);
            x.due(NONE, "ray", 12, 20, 0, 0, 0, 1).due(NONE, "ray", 10, 23, 0, 0, 0, 1);
        });
        Sentence.holds(10, "it is at PLACE and t times it, t above 0", x -> {
            x.does("surface", 0, 0, 10, 0, 0, 8, 8).does("surface", 0, 0, 0, 0, 0, 8, 8);
            x.due(NONE, "ray", 10, 1, 1, 1, 0, 0).due(109, "ray", 10, 1, 1, -1, 0, 0);
            x.due(9, "ray", 0, 1, 1, 1, 0, 0).due(NONE, "ray", 0, 1, 1, -1, 0, 0);
            x.due(NONE, "ray", 11, 1, 1, 1, 0, 0).due(9, "ray", 9, 1, 1, 1, 0, 0);
            x.due(9, "ray", 11, 1, 1, -1, 0, 0).due(109, "ray", 9, 1, 1, -99, 0, 0);
        });
        Sentence.holds(10, "if it goes along that AXIS at all", x -> {
            // It lies in the FLAT's plane, or beside it, and never has its c or always does.
            for (int axis = 0; axis < 3; axis++) {
                x.does("surface", 0, axis, 5, 5, 5, 8, 8);
            }
            x.due(NONE, "ray", 5, 0, 13, 0, 1, 0).due(NONE, "ray", 13, 5, 0, 0, 0, 1);
            x.due(NONE, "ray", 0, 13, 5, 1, 0, 0).due(NONE, "ray", 5, 7, 7, 0, 1, 0).due(NONE, "ray", 5, 7, 7, 0, 0, 1);
            x.due(NONE, "ray", 5, 13, 0, 0, 0, 1).due(NONE, "ray", 7, 5, 7, 0, 1, 0).due(NONE, "ray", 7, 5, 7, 1, 0, 0);
        });
    }

    private static void rayFirst() {
        Sentence.holds(10, "first to that of the least t", x -> {
            x.does("surface", 0, 0, 30, 0, 0, 8, 8).does("surface", 0, 0, 20, 0, 0, 8, 8);
            x.does("surface", 0, 0, 10, 0, 0, 8, 8);
            x.due(209, "ray", 0, 1, 1, 1, 0, 0).due(109, "ray", 10, 1, 1, 1, 0, 0).due(9, "ray", 20, 1, 1, 1, 0, 0);
            x.due(9, "ray", 40, 1, 1, -1, 0, 0).due(109, "ray", 30, 1, 1, -1, 0, 0);
            // Shares close to one another: x 10 at 10/99, y 1 at 1/10 and then at 1/9.
            x.does("surface", 0, 1, 1, 8, 0, 8, 8).due(301, "ray", 0, 0, 0, 99, 10, 0);
            x.due(208, "ray", 0, 0, 0, 99, 9, 10);
        });
        Sentence.holds(10, "(of like t to the SURFACE of the least number)", x -> {
            x.does("surface", 0, 0, 10, 8, 8, 4, 4).does("surface", 0, 0, 10, 8, 8, 8, 8);
            x.does("surface", 0, 1, 10, 8, 8, 4, 4).does("surface", 0, 2, 10, 8, 8, 4, 4);
            x.due(0, "ray", 0, 8, 8, 1, 0, 0).due(15, "ray", 40, 11, 11, -1, 0, 0).due(104, "ray", 0, 12, 8, 1, 0, 0);
            // In the corner at (10, 10, 10) all four meet, at (11, 10, 10) 2 and 3 alone.
            x.due(10, "ray", 0, 0, 0, 1, 1, 1).due(10, "ray", 11, 0, 10, -1, 10, 0);
            x.due(211, "ray", 11, 0, 0, 0, 1, 1).due(310, "ray", 10, 10, 0, 0, 0, 1);
        });
    }

    private static void rayThrown() {
        Sentence.holds(10, "A MIRROR, and a FAINT one in a bare CELL, throws it back", x -> {
            x.does("surface", 1, 0, 10, 0, 0, 2, 2).does("surface", 2, 0, 10, 2, 0, 2, 2);
            x.does("surface", 0, 0, 10, 4, 0, 2, 2).does("surface", 0, 0, 0, 0, 0, 8, 8);
            x.due(300, "ray", 5, 0, 0, 1, 0, 0).due(302, "ray", 5, 2, 0, 1, 0, 0).due(200, "ray", 5, 4, 0, 1, 0, 0);
            x.does("paint", 1, 0, 1).due(100, "ray", 5, 2, 0, 1, 0, 0).due(303, "ray", 5, 3, 0, 1, 0, 0);
            x.due(310, "ray", 5, 2, 1, 1, 0, 0).does("paint", 1, 0, 0).due(302, "ray", 5, 2, 0, 1, 0, 0);
        });
        Sentence.holds(10, "from there it goes on with the contrary direction along that AXIS", x -> {
            // Across each AXIS a MIRROR at 20 and a WALL at 10: from 18 it is 12 on the way, by 4, and 3 and 6 aside.
            for (int axis = 0; axis < 3; axis++) {
                x.does("surface", 1, axis, 20, 0, 0, 8, 8).does("surface", 0, axis, 10, 0, 0, 8, 8);
            }
            x.due(151, "ray", 18, 0, 0, 4, 1, 2).due(351, "ray", 0, 18, 0, 1, 4, 2).due(551, "ray", 0, 0, 18, 1, 2, 4);
            x.due(109, "ray", 18, 1, 1, 1, 0, 0).due(309, "ray", 1, 18, 1, 0, 1, 0).due(509, "ray", 1, 1, 18, 0, 0, 1);
        });
        Sentence.holds(10, "it then COMES to those of greater t alone", x -> {
            x.does("surface", 1, 0, 10, 0, 0, 8, 8).does("surface", 0, 0, 10, 0, 0, 8, 8);
            x.does("surface", 0, 0, 12, 0, 0, 8, 8).does("surface", 0, 0, 2, 0, 0, 8, 4);
            // Not to the WALL in the same place, nor to what lies behind, nor to the MIRROR itself.
            x.due(309, "ray", 5, 1, 1, 1, 0, 0).due(1, "bounces", 5, 1, 1, 1, 0, 0);
            x.due(NONE, "ray", 5, 1, 5, 1, 0, 0).due(1, "bounces", 5, 1, 5, 1, 0, 0);
            // From the FLAT that it begins in it goes away, but may come back to it.
            x.due(309, "ray", 2, 1, 1, 1, 0, 0).due(209, "ray", 11, 1, 1, -1, 0, 0);
        });
        Sentence.holds(10, "it then COMES to those of greater t", x -> {
            // A MIRROR and a WALL come to at one t in a corner: that of the least number alone.
            x.does("surface", 1, 1, 10, 8, 8, 4, 4).does("surface", 0, 0, 10, 8, 8, 4, 4);
            x.does("surface", 0, 0, 12, 4, 8, 8, 8).due(212, "ray", 0, 0, 9, 1, 1, 0).due(1, "bounces", 0, 0, 9, 1, 1, 0);
            x.does("surface", 1, 0, 10, 20, 8, 4, 4).does("surface", 0, 1, 22, 8, 8, 4, 4);
            x.due(NONE, "ray", 0, 12, 9, 1, 1, 0).due(1, "bounces", 0, 12, 9, 1, 1, 0);
            x.does("surface", 0, 1, 30, 8, 8, 4, 4).does("surface", 1, 0, 10, 28, 8, 4, 4);
            x.due(506, "ray", 0, 20, 9, 1, 1, 0).due(0, "bounces", 0, 20, 9, 1, 1, 0);
        });
    }

    private static void rayLost() {
        Sentence.holds(10, "A RAY thrown back three times, that COMES to one more that would throw it back, is LOST.",
            x -> {
                // It comes to x 8 or 4 after 2, 6, 10, 14 along x, beginning at (6, 1, 0).
                x.does("surface", 2, 0, 4, 0, 0, 8, 8).does("surface", 1, 0, 8, 0, 0, 8, 8);
                x.does("surface", 0, 0, 2, 0, 0, 8, 8).does("surface", 0, 0, 2, 0, 8, 8, 8);
                x.due(NONE, "ray", 6, 1, 0, 2, 0, 1).due(3, "bounces", 6, 1, 0, 2, 0, 1);
                // At z 8 exactly, just beyond the MIRROR, there is no more that would throw it back.
                x.due(309, "ray", 6, 1, 0, 7, 0, 4).due(3, "bounces", 6, 1, 0, 7, 0, 4);
                x.due(NONE, "ray", 6, 1, 0, 99, 0, 56).due(3, "bounces", 6, 1, 0, 99, 0, 56);
                // A painted CELL would not throw it back.
                x.does("paint", 0, 57, 3).due(57, "ray", 6, 1, 0, 2, 0, 1).due(3, "bounces", 6, 1, 0, 2, 0, 1);
                x.does("paint", 0, 57, 0).does("paint", 0, 25, 3);
                x.due(25, "ray", 6, 1, 0, 2, 0, 1).due(1, "bounces", 6, 1, 0, 2, 0, 1);
            });
        Sentence.holds(10, "What it ENDS at: the SURFACE and CELL that does not throw it back; or nothing (also LOST).",
            x -> {
                x.does("surface", 1, 0, 4, 0, 0, 8, 8).does("surface", 1, 0, 8, 0, 0, 8, 8);
                x.due(NONE, "ray", 6, 1, 1, 1, 0, 0).due(NONE, "ray", 6, 1, 1, 0, 1, 0).due(NONE, "ray", 3, 1, 1, -1, 0, 0);
                x.due(NONE, "ray", 3, 1, 1, 1, 0, 0).does("surface", 0, 0, 0, 0, 0, 8, 8).due(209, "ray", 3, 1, 1, 1, 0, 0);
                x.due(NONE, "ray", 6, 1, 1, 1, 0, 0).does("surface", 0, 2, 3, 4, 0, 4, 4).due(307, "ray", 6, 1, 0, 9, 0, 3);
            });
    }

    private static void bounces() {
        Sentence.holds(11, "How often it is thrown back on its way (LOST: 3).", x -> {
            x.does("surface", 1, 0, 4, 0, 0, 8, 8).does("surface", 2, 0, 8, 0, 0, 8, 8);
            x.due(0, "bounces", 6, 1, 0, 0, 0, 1).due(0, "bounces", 6, 1, 0, 1, 0, 4);
            // z 8 is the far edge: along x it has gone 2, 6, 10, 14 when it comes to a MIRROR.
            x.due(1, "bounces", 6, 1, 0, 25, 0, 99).due(1, "bounces", 6, 1, 0, 3, 0, 4);
            x.due(2, "bounces", 6, 1, 0, 76, 0, 99).due(2, "bounces", 6, 1, 0, 5, 0, 4);
            x.due(3, "bounces", 6, 1, 0, 6, 0, 4).due(3, "bounces", 6, 1, 0, 7, 0, 4);
            x.due(3, "bounces", 6, 1, 0, 8, 0, 4).due(3, "bounces", 6, 1, 0, 1, 0, 0);
            x.does("paint", 1, 1, 1).due(0, "bounces", 6, 1, 0, 9, 0, 4).due(1, "bounces", 6, 1, 0, -9, 0, 1);
        });
        Sentence.holds(11, "OUTSIDE: as ray().", x -> {
            int[] a = {0, 0, 0, 0, 0, 1};
            x.due(0, "bounces", a).due(0, "bounces", 40, 40, 40, -99, 99, 99).due(OUTSIDE, "bounces", 0, 0, 0, 0, 0, 0);
            for (int k = 0; k < 6; k++) {
                int before = a[k];
                for (int wrong : k < 3 ? new int[] {-1, 41, LEAST, MOST} : new int[] {-100, 100, LEAST, MOST}) {
                    a[k] = wrong;
                    x.due(OUTSIDE, "bounces", a);
                }
                a[k] = before;
            }
        });
    }

    private static void seen() {
        Sentence.holds(12, "SEEN by an EYE for a CELL of THE BOARD, as ray(). UNKNOWN.", x -> {
            x.due(NONE, "seen", 0, 0).does("surface", 0, 2, 40, 0, 0, 8, 8).does("surface", 0, 2, 20, 0, 0, 1, 1);
            x.does("board", 2, 20, 0, 0, 2, 3).due(100, "seen", 0, 0).due(11, "seen", 0, 1).due(43, "seen", 0, 5);
            x.due(UNKNOWN, "seen", 0, 6);
            for (int wrong : new int[] {-1, 6, LEAST, MOST}) {
                x.due(UNKNOWN, "seen", wrong, 0).due(UNKNOWN, "seen", 0, wrong);
            }
            x.due(UNKNOWN, "seen", 4, 0).due(100, "seen", 3, 0);
        });
        Sentence.holds(12, "SEEN by an EYE for a CELL of THE BOARD", x -> {
            // Each from its own place through (4 1/2, 4 1/2, 20) to z 40, which is 2, 5, 6 and 3 times as far.
            x.does("surface", 0, 2, 40, 0, 0, 8, 8).does("board", 2, 20, 4, 4, 1, 1).does("eye", 0, 2, 3, 0);
            x.does("eye", 1, 4, 5, 15).does("eye", 2, 5, 4, 16).does("eye", 3, 4, 5, 10);
            x.due(55, "seen", 0, 0).due(22, "seen", 1, 0).due(58, "seen", 2, 0).due(29, "seen", 3, 0);
        });
        Sentence.holds(12, "by the difference to the CELL's middle, twice", x -> {
            // From (0, 0, 0) by (1, 1, 2) for CELL 0 and (3, 1, 2) for CELL 1: lines are come to exactly.
            x.does("board", 2, 1, 0, 0, 2, 1).does("surface", 0, 2, 2, 0, 0, 4, 2).does("surface", 0, 2, 4, 0, 0, 8, 8);
            x.due(5, "seen", 0, 0).due(7, "seen", 0, 1).does("eye", 0, 1, 0, 0);
            x.due(4, "seen", 0, 0).due(6, "seen", 0, 1).does("eye", 0, 2, 0, 0).due(5, "seen", 0, 1);
            // CELL 0 lies at -3 from there, so that it comes to -1 at z 2.
            x.due(NONE, "seen", 0, 0);
        });
        Sentence.holds(12, "(None, if that is all 0.)", x -> {
            // A middle is half way between whole places, so the nearest that an EYE comes to it is a CELL's corner.
            x.does("board", 2, 5, 3, 3, 1, 1).does("surface", 0, 2, 5, 3, 3, 1, 1).does("surface", 0, 0, 6, 0, 0, 8, 8);
            x.does("eye", 0, 3, 3, 5).due(146, "seen", 0, 0).does("eye", 0, 4, 4, 5).due(NONE, "seen", 0, 0);
            x.does("eye", 0, 3, 4, 5).due(141, "seen", 0, 0).does("eye", 0, 3, 3, 4).due(0, "seen", 0, 0);
        });
    }
}
