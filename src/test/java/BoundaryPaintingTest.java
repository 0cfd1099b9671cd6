import java.util.Arrays;

/** The sentences of promises 13 to 17 that name a boundary case, and those of the words they use. */
public final class BoundaryPaintingTest {
    private static final int LEAST = Integer.MIN_VALUE, MOST = Integer.MAX_VALUE;
    private static final int UNKNOWN = BentPictures.UNKNOWN, OUTSIDE = BentPictures.OUTSIDE, NONE = BentPictures.NONE;

    private BoundaryPaintingTest() {
    }

    public static void main(String[] args) {
        all();
        Sentence.end(13, 17);
    }

    static void all() {
        wishes();
        fates();
        paintingBares();
        paintingColours();
        paintingFaint();
        wash();
        idle();
        tenSurfaces();
        swayRefusals();
        swayEdges();
        swayOrder();
    }

    /**
     * A WALL in THE BOARD's own place, so that for a CELL of THE BOARD the same CELL of SURFACE 0 is SEEN from
     * everywhere beside that plane; all EYES at (4, 4, 0).
     */
    private static Run mounted(Run x, int w, int h) {
        x.does("surface", 0, 2, 10, 4, 4, w, h).does("board", 2, 10, 4, 4, w, h);
        for (int e = 0; e < 4; e++) {
            x.does("eye", e, 4, 4, 0);
        }
        return x;
    }

    private static void wishes() {
        Sentence.holds(13, "Sets are told as bits (bit k for number k).", x -> {
            x.does("board", 2, 10, 4, 4, 4, 1).show(0, 0, 0, 1, 0).show(1, 2, 0, 2, 0).show(2, 3, 3, 3, 0);
            x.show(3, 4, 4, 4, 4);
            for (int set = 0; set < 16; set++) {
                x.due((set & 1) + (set & 2) + 3 * (set >> 2 & 1) + 4 * (set >> 3), "wishes", set, 0);
            }
        });
        Sentence.holds(13, "OUTSIDE: set is not 0 .. 15, what.", x -> {
            for (int wrong : new int[] {-1, 16, LEAST, MOST}) {
                x.due(OUTSIDE, "wishes", wrong, 0).due(OUTSIDE, "wishes", wrong, 4);
            }
            for (int wrong : new int[] {-1, 4, LEAST, MOST}) {
                x.due(OUTSIDE, "wishes", 0, wrong).due(OUTSIDE, "wishes", 15, wrong);
            }
            for (int what = 0; what < 4; what++) {
                x.due(0, "wishes", 0, what).due(0, "wishes", 15, what);
            }
        });
        Sentence.holds(13, "a CELL of THE BOARD that is not bare in the EYE's PICTURE", x -> {
            mounted(x, 2, 2).due(0, "wishes", 15, 0).show(0, 0, 0, 0, 0).due(0, "wishes", 15, 0);
            // A bare CELL of the PICTURE is no WISH, not even where a bare CELL is SEEN.
            for (int what = 0; what < 4; what++) {
                x.due(0, "wishes", 1, what);
            }
            x.show(0, 0, 0, 0, 9).due(1, "wishes", 1, 0).due(1, "wishes", 1, 3).show(0, 1, 1, 1, 1);
            x.due(4, "wishes", 15, 0);
        });
    }

    private static void fates() {
        Sentence.holds(13, "MET: it is so; BLIND: nothing is SEEN; else MISSED.", x -> {
            // A WALL behind CELLS 0 and 1; nothing behind 2; behind 3 MIRRORS between which the RAY is LOST.
            x.does("surface", 0, 2, 10, 4, 4, 2, 1).does("surface", 1, 2, 10, 7, 4, 1, 1);
            x.does("surface", 1, 2, 0, 11, 4, 8, 8).does("surface", 1, 2, 10, 14, 4, 8, 8);
            x.does("board", 2, 10, 4, 4, 4, 1).does("eye", 0, 4, 4, 0).show(0, 1, 2, 3, 4).does("paint", 0, 0, 1);
            x.due(NONE, "seen", 0, 2).due(NONE, "seen", 0, 3).due(1, "seen", 0, 1);
            x.due(4, "wishes", 1, 0).due(1, "wishes", 1, 1).due(2, "wishes", 1, 2).due(1, "wishes", 1, 3);
            // A CELL of another COLOUR is MISSED like a bare one.
            x.does("paint", 0, 1, 9).due(1, "wishes", 1, 1).due(2, "wishes", 1, 2).due(1, "wishes", 1, 3);
            x.does("paint", 0, 1, 2).due(2, "wishes", 1, 1).due(2, "wishes", 1, 2).due(0, "wishes", 1, 3);
        });
        Sentence.holds(13, "how many (what 0), MET (1), BLIND (2), MISSED (3).", x -> {
            // One MET, two BLIND, three MISSED of six; of two EYES at once twice that.
            x.does("surface", 0, 2, 10, 4, 4, 4, 1).does("board", 2, 10, 4, 4, 6, 1).does("paint", 0, 0, 1);
            x.does("eye", 0, 4, 4, 0).does("eye", 3, 5, 5, 40).show(0, 1, 2, 3, 4, 5, 6).show(3, 1, 2, 3, 4, 5, 6);
            int[] due = {6, 1, 2, 3};
            for (int what = 0; what < 4; what++) {
                x.due(due[what], "wishes", 1, what).due(due[what], "wishes", 8, what).due(2 * due[what], "wishes", 9, what);
                x.due(0, "wishes", 6, what).due(0, "wishes", 0, what).due(2 * due[what], "wishes", 15, what);
            }
        });
        Sentence.holds(13, "BLIND: nothing is SEEN", x -> {
            x.does("board", 2, 10, 4, 4, 8, 8).row(0, new int[64]);
            x.does("put", 0, 0, 1).does("put", 0, 63, 9).does("picture", 2, 0, 2, 0);
            x.due(2, "wishes", 4, 0).due(0, "wishes", 4, 1).due(2, "wishes", 4, 2).due(0, "wishes", 4, 3);
        });
    }

    private static void paintingBares() {
        Sentence.holds(14, "all CELLS that take COLOURS become bare", x -> {
            mounted(x, 2, 1).does("surface", 2, 0, 30, 0, 0, 8, 8).does("surface", 0, 0, 31, 0, 0, 8, 8);
            x.show(0, 5, 0).show(1, 0, 6);
            x.does("paint", 0, 0, 1).does("paint", 1, 63, 2).does("paint", 2, 63, 3).does("paint", 2, 0, 3);
            // For no EYES at all, too; and what was painted for others goes.
            x.due(4, "many", 4).due(0, "painting", 0).due(0, "many", 4).due(1, "painting", 1).due(5, "colour", 0, 0);
            x.due(1, "painting", 2).due(0, "colour", 0, 0).due(6, "colour", 0, 1).due(0, "painting", 4);
            x.due(0, "colour", 0, 1);
        });
        Sentence.holds(14, "PAINTING for a set of EYES: how many CELLS are not bare. OUTSIDE.", x -> {
            x.due(0, "painting", 15).due(0, "painting", 0);
            mounted(x, 1, 1).show(3, 9).due(0, "painting", 7).due(1, "painting", 8).due(1, "painting", 15);
            for (int wrong : new int[] {-1, 16, LEAST, MOST}) {
                x.due(OUTSIDE, "painting", wrong).due(9, "colour", 0, 0);
            }
        });
        Sentence.holds(14, "how many CELLS are not bare", x -> {
            int[] colours = new int[64];
            for (int i = 0; i < 64; i++) {
                colours[i] = 1 + i % 9;
            }
            mounted(x, 8, 8).show(0, colours).due(64, "painting", 1).due(64, "wishes", 1, 1);
            x.due(1, "colour", 0, 0).due(1, "colour", 0, 63).due(9, "colour", 0, 62).due(64, "about", 0, 7);
        });
    }

    private static void paintingColours() {
        Sentence.holds(14, "becomes the COLOUR that most of the WISHES want it to be; of several the least", x -> {
            mounted(x, 3, 1).show(0, 9, 9, 1).show(1, 9, 0, 2).show(2, 1, 1, 3).show(3, 8, 0, 4);
            x.due(3, "painting", 15).due(9, "colour", 0, 0).due(1, "colour", 0, 1).due(1, "colour", 0, 2);
            // Of one and one the least, whichever EYE wants it.
            x.due(3, "painting", 5).due(1, "colour", 0, 0).due(1, "colour", 0, 1).due(1, "colour", 0, 2);
            x.due(2, "painting", 10).due(8, "colour", 0, 0).due(0, "colour", 0, 1).due(2, "colour", 0, 2);
            x.due(3, "painting", 3).due(9, "colour", 0, 0).due(9, "colour", 0, 1).due(1, "colour", 0, 2);
        });
        Sentence.holds(14, "the COLOUR that most of the WISHES want it to be", x -> {
            // The WALL close to the EYE has one CELL for all four of THE BOARD: one EYE's WISHES contend.
            x.does("surface", 0, 2, 1, 4, 4, 8, 8).does("board", 2, 20, 4, 4, 4, 1).does("eye", 0, 4, 4, 0);
            for (int cell = 0; cell < 4; cell++) {
                x.due(0, "seen", 0, cell);
            }
            x.show(0, 9, 1, 9, 1).due(1, "painting", 1).due(1, "colour", 0, 0).due(2, "wishes", 1, 3);
            x.show(0, 2, 9, 9, 1).due(1, "painting", 1).due(9, "colour", 0, 0);
            x.show(0, 4, 3, 2, 0).due(1, "painting", 1).due(2, "colour", 0, 0);
            x.show(0, 0, 0, 0, 0).due(0, "painting", 1).due(0, "colour", 0, 0);
        });
        Sentence.holds(14, "each CELL that is SEEN for some WISH", x -> {
            mounted(x, 2, 2).show(0, 0, 3, 0, 0).show(1, 4, 4, 4, 4);
            x.due(1, "painting", 1).due(0, "colour", 0, 0).due(3, "colour", 0, 1).due(0, "colour", 0, 2);
            // From within the plane itself nothing is SEEN.
            x.does("eye", 0, 4, 4, 10).due(0, "painting", 1).due(4, "painting", 3).due(1, "wishes", 1, 2);
        });
    }

    private static void paintingFaint() {
        Sentence.holds(14, "(by what is SEEN with all bare)", x -> {
            // A FAINT one at z 6, painted, hides the WALL behind the EYE at z 0, until all is bare.
            mounted(x, 2, 1).does("surface", 2, 2, 6, 0, 0, 8, 8).does("surface", 0, 2, 0, 0, 0, 8, 8);
            x.show(0, 7, 8).does("paint", 1, 36, 7).does("paint", 1, 37, 8).due(136, "seen", 0, 0);
            x.due(2, "painting", 1).due(0, "about", 1, 7).due(7, "colour", 2, 36).due(8, "colour", 2, 37);
            x.due(236, "seen", 0, 0).due(2, "wishes", 1, 1);
        });
        Sentence.holds(14, "FAINT ones throw back where they stay bare: what is SEEN behind may be other then; "
            + "PAINTING goes by what was SEEN.", x -> {
                // A FAINT one in THE BOARD's place: with all bare it throws back, so that it never is SEEN itself.
                x.does("surface", 2, 2, 10, 4, 4, 2, 1).does("board", 2, 10, 4, 4, 2, 1).does("eye", 0, 4, 4, 0);
                x.show(0, 5, 6).due(0, "painting", 1).due(2, "wishes", 1, 2).does("paint", 0, 0, 5);
                x.due(1, "wishes", 1, 1).due(0, "painting", 1).due(0, "colour", 0, 0);
                x.does("surface", 0, 2, 0, 4, 4, 8, 8).due(2, "painting", 1).due(0, "about", 0, 7);
                x.due(2, "wishes", 1, 1).due(5, "colour", 1, 9).due(6, "colour", 1, 11);
            });
    }

    private static void wash() {
        Sentence.holds(15, "All CELLS of SURFACES become bare: how many were not.", x -> {
            x.due(0, "wash").does("surface", 0, 0, 0, 0, 0, 8, 8).does("surface", 2, 0, 0, 0, 0, 1, 1);
            x.does("surface", 1, 0, 0, 0, 0, 1, 1).due(0, "wash").does("paint", 1, 0, 9).due(1, "wash").due(0, "wash");
            for (int cell = 0; cell < 64; cell++) {
                x.does("paint", 0, cell, 1 + cell % 9);
            }
            x.does("paint", 1, 0, 1).due(65, "many", 4).due(65, "wash").due(0, "many", 4).due(0, "colour", 0, 0);
            x.due(0, "colour", 0, 63).due(0, "colour", 1, 0).due(0, "wash");
        });
        Sentence.holds(15, "All CELLS of SURFACES become bare", x -> {
            // PICTURES are no SURFACES.
            mounted(x, 1, 1).show(0, 4).does("painting", 1).due(1, "wash").due(4, "wish", 0, 0).due(0, "wishes", 1, 1);
        });
    }

    private static void idle() {
        Sentence.holds(16, "How many CELLS of SURFACES (those that take COLOURS) are SEEN for no WISH", x -> {
            x.due(0, "idle", 0).due(0, "idle", 15).does("surface", 1, 0, 30, 0, 0, 8, 8).due(0, "idle", 15);
            mounted(x, 2, 1).due(2, "idle", 15).does("surface", 2, 0, 31, 0, 0, 2, 2).due(6, "idle", 0);
            x.due(6, "idle", 15).does("surface", 0, 0, 32, 0, 0, 8, 8).due(70, "idle", 15);
        });
        Sentence.holds(16, "are SEEN for no WISH of a set of EYES", x -> {
            mounted(x, 2, 1).show(0, 1, 1).show(1, 1, 0).show(2, 0, 0);
            x.due(2, "idle", 0).due(0, "idle", 1).due(1, "idle", 2).due(0, "idle", 3).due(2, "idle", 4);
            x.due(1, "idle", 6).due(2, "idle", 8).due(0, "idle", 15);
            // It goes by what is SEEN as things are: a painted FAINT CELL in the way is SEEN, a bare one is not.
            x.does("surface", 2, 2, 8, 4, 4, 1, 1).due(3, "idle", 2).does("paint", 1, 0, 5).due(2, "idle", 2);
        });
        Sentence.holds(16, "CELLS of SURFACES (those that take COLOURS)", x -> {
            int[] colours = new int[64];
            Arrays.fill(colours, 3);
            mounted(x, 8, 8).show(0, colours).due(0, "idle", 1).due(64, "idle", 2);
        });
        Sentence.holds(16, "of a set of EYES. OUTSIDE.", x -> {
            for (int wrong : new int[] {-1, 16, LEAST, MOST}) {
                x.due(OUTSIDE, "idle", wrong);
            }
            x.due(0, "idle", 0).due(0, "idle", 15);
        });
    }

    /** THE BOARD of ten CELLS, in the place of each a WALL of one CELL, whose numbers are THE BOARD's. */
    private static Run tenMounted(Run x) {
        for (int s = 0; s < 10; s++) {
            x.does("surface", 0, 2, 10, 4 + s % 5, 4 + s / 5, 1, 1);
        }
        return x.does("board", 2, 10, 4, 4, 5, 2).does("eye", 0, 4, 4, 0).show(0, 1, 2, 3, 4, 5, 6, 7, 8, 9, 1);
    }

    private static void tenSurfaces() {
        Sentence.holds(13, "that what is SEEN has the PICTURE's COLOUR", x -> {
            tenMounted(x);
            for (int s = 0; s < 10; s++) {
                x.due(s, "wishes", 1, 1).does("paint", s, 0, 1 + s % 9);
            }
            x.due(10, "wishes", 1, 1).does("paint", 9, 0, 2).due(9, "wishes", 1, 1).due(1, "wishes", 1, 3);
        });
        Sentence.holds(14, "then (by what is SEEN with all bare) each CELL that is SEEN for some WISH", x -> {
            tenMounted(x).due(10, "painting", 1).due(10, "wishes", 1, 1);
            for (int s = 0; s < 10; s++) {
                x.due(1 + s % 9, "colour", s, 0);
            }
        });
        Sentence.holds(16, "are SEEN for no WISH", x -> {
            tenMounted(x).due(0, "idle", 1).show(0, 0, 1, 0, 0, 0, 0, 0, 0, 0, 1).due(8, "idle", 1);
            int[] colours = new int[64];
            Arrays.fill(colours, 3);
            // SURFACE 9 with all its 64 CELLS, beside nine of one.
            Run more = x.another();
            for (int s = 0; s < 9; s++) {
                more.does("surface", 0, 0, 40, 0, 0, 1, 1);
            }
            mounted(more, 8, 8).show(0, colours).due(900, "seen", 0, 0).due(963, "seen", 0, 63).due(9, "idle", 1);
        });
    }

    private static void swayRefusals() {
        Sentence.holds(17, "0 WORST, 1 x, 2 y, 3 z of the place. UNKNOWN; OUTSIDE: d, what.", x -> {
            for (int wrong : new int[] {-1, 4, LEAST, MOST}) {
                x.due(UNKNOWN, "sway", wrong, 1, 0).due(UNKNOWN, "sway", wrong, 0, 0).due(UNKNOWN, "sway", wrong, 1, 4);
                x.due(OUTSIDE, "sway", 0, 1, wrong);
            }
            for (int what = 0; what < 4; what++) {
                x.due(0, "sway", 0, 1, what).due(0, "sway", 3, 9, what);
            }
        });
        Sentence.holds(17, "SWAY of an EYE by d (1 .. 9)", x -> {
            x.does("eye", 0, 20, 20, 20);
            for (int wrong : new int[] {0, 10, -1, -9, LEAST, MOST}) {
                x.due(OUTSIDE, "sway", 0, wrong, 0).due(OUTSIDE, "sway", 0, wrong, 3);
            }
            x.due(19, "sway", 0, 1, 1).due(19, "sway", 0, 1, 3).due(11, "sway", 0, 9, 1).due(11, "sway", 0, 9, 3);
        });
    }

    private static void swayEdges() {
        Sentence.holds(17, "(those beyond 0 .. 40 left out)", x -> {
            x.does("eye", 0, 9, 9, 9).does("eye", 1, 8, 8, 8).does("eye", 2, 9, 8, 0).does("eye", 3, 0, 40, 40);
            int[][] due = {{0, 0, 0, 0}, {0, 8, 8, 8}, {0, 0, 8, 0}, {0, 0, 31, 31}};
            for (int e = 0; e < 4; e++) {
                for (int what = 0; what < 4; what++) {
                    x.due(due[e][what], "sway", e, 9, what);
                }
            }
        });
        Sentence.holds(17, "moved by -d, 0, d along each AXIS (those beyond 0 .. 40 left out)", x -> {
            // MISSED from (40, 40, 40) alone: on the way from there a bare CELL is in the way.
            screened(x).does("surface", 0, 0, 35, 37, 37, 1, 1).does("eye", 0, 31, 31, 31);
            x.due(1, "sway", 0, 9, 0).due(40, "sway", 0, 9, 1).due(40, "sway", 0, 9, 2).due(40, "sway", 0, 9, 3);
            x.due(0, "sway", 0, 7, 0).due(24, "sway", 0, 7, 1);
        });
        Sentence.holds(17, "those beyond 0 .. 40 left out", x -> {
            // From 41 along any AXIS a bare CELL would be in the way, from 32 and 23 none is.
            threeScreens(x).does("eye", 0, 32, 32, 32);
            x.due(0, "sway", 0, 9, 0).due(23, "sway", 0, 9, 1).due(23, "sway", 0, 9, 2).due(23, "sway", 0, 9, 3);
        });
        Sentence.holds(17, "the EYE stands in each of the 27 places, moved by -d, 0, d along each AXIS", x -> {
            // From x 40, twice 9 away, bare CELLS would be in the way, from 31 and less none is.
            screened(x).does("surface", 0, 0, 35, 24, 24, 8, 8).does("eye", 0, 22, 31, 31);
            x.due(0, "sway", 0, 9, 0).due(13, "sway", 0, 9, 1).does("eye", 0, 31, 31, 31).due(1, "sway", 0, 9, 0);
            x.due(40, "sway", 0, 9, 1).due(22, "sway", 0, 9, 2).due(22, "sway", 0, 9, 3);
        });
        Sentence.holds(17, "the EYE stands in each of the 27 places", x -> {
            // It is only seen how it would be: the EYE stays.
            threeScreens(x).does("eye", 0, 31, 31, 31).due(1, "wishes", 1, 1).due(1, "sway", 0, 9, 0);
            x.due(1, "wishes", 1, 1).due(1, "sway", 0, 9, 0).due(0, "seen", 0, 0);
        });
    }

    /** THE BOARD's one CELL at (20, 31, 31) on a WALL of that place, which is painted as EYE 0 wants it. */
    private static Run screened(Run x) {
        x.does("board", 0, 20, 31, 31, 1, 1).does("surface", 0, 0, 20, 31, 31, 1, 1).does("paint", 0, 0, 1);
        return x.show(0, 1);
    }

    /** Bare CELLS (SURFACES 1, 2, 3), in the way from 31 and 9 more (or 32 and 9 more) along x, y, z alone. */
    private static Run threeScreens(Run x) {
        screened(x).does("surface", 0, 0, 35, 31, 31, 1, 1).does("surface", 0, 1, 35, 24, 31, 1, 1);
        return x.does("surface", 0, 2, 35, 24, 31, 1, 1);
    }

    private static void swayOrder() {
        Sentence.holds(17, "in order (x first, going slowest)", x -> {
            threeScreens(x).does("eye", 0, 31, 31, 31);
            int[][] due = {{31, 31, 40}, {31, 40, 31}, {40, 31, 31}, {22, 22, 22}};
            for (int k = 0; k < 4; k++) {
                x.due(k < 3 ? 1 : 0, "sway", 0, 9, 0);
                for (int what = 1; what < 4; what++) {
                    x.due(due[k][what - 1], "sway", 0, 9, what);
                }
                // What is in the way gets the COLOUR that is wanted, that of the last AXIS first.
                x.does("paint", Math.max(0, 3 - k), 0, 1);
            }
        });
        Sentence.holds(17, "WORST: the most of its WISHES that are not MET; of several the first place.", x -> {
            // Two WISHES: the CELL at y 35 is in one's way alone, those at x 35 and z 35 are in both's.
            x.does("board", 0, 20, 31, 31, 2, 1).does("surface", 0, 0, 20, 31, 31, 2, 1);
            x.does("surface", 0, 0, 35, 31, 31, 1, 1).does("surface", 0, 1, 35, 24, 31, 1, 1);
            x.does("surface", 0, 2, 35, 24, 31, 1, 1).does("paint", 0, 0, 1).does("paint", 0, 1, 1).show(0, 1, 1);
            x.does("eye", 0, 31, 31, 31).due(2, "sway", 0, 9, 0).due(31, "sway", 0, 9, 1).due(40, "sway", 0, 9, 3);
            x.does("paint", 3, 0, 1).due(2, "sway", 0, 9, 0).due(40, "sway", 0, 9, 1).due(31, "sway", 0, 9, 2);
            x.does("paint", 1, 0, 1).due(1, "sway", 0, 9, 0).due(31, "sway", 0, 9, 1).due(40, "sway", 0, 9, 2);
            x.does("paint", 2, 0, 1).due(0, "sway", 0, 9, 0).due(22, "sway", 0, 9, 1).due(22, "sway", 0, 9, 2);
        });
        Sentence.holds(17, "of its WISHES that are not MET", x -> {
            // Where its PICTURE is bare it has no WISH, whatever is SEEN there.
            mounted(x, 3, 1).does("paint", 0, 0, 1).does("paint", 0, 1, 5).show(0, 1, 0, 0).does("eye", 0, 6, 6, 2);
            x.due(0, "sway", 0, 1, 0).show(0, 1, 5, 0).due(0, "sway", 0, 1, 0).show(0, 1, 5, 9).due(1, "sway", 0, 1, 0);
        });
        Sentence.holds(17, "the most of its WISHES that are not MET", x -> {
            // BLIND ones are not MET either; another EYE's WISHES are not its own.
            x.does("board", 0, 20, 31, 31, 8, 8).does("eye", 1, 10, 20, 30).row(0, new int[64]);
            for (int i = 0; i < 64; i++) {
                x.does("put", 0, i, 1);
            }
            x.does("picture", 1, 0, 2, 0).due(64, "sway", 1, 1, 0).due(9, "sway", 1, 1, 1).due(19, "sway", 1, 1, 2);
            x.due(29, "sway", 1, 1, 3).due(0, "sway", 0, 1, 0);
        });
    }
}
