/** The sentences of promises 18 to 26 that name a boundary case, and those of the words they use. */
public final class BoundaryLightTest {
    private static final int LEAST = Integer.MIN_VALUE, MOST = Integer.MAX_VALUE;
    private static final int UNKNOWN = BentPictures.UNKNOWN, OUTSIDE = BentPictures.OUTSIDE,
        STATE = BentPictures.STATE, FULL = BentPictures.FULL, SPENT = BentPictures.SPENT, NONE = BentPictures.NONE;

    private BoundaryLightTest() {
    }

    public static void main(String[] args) {
        all();
        Sentence.end(18, 26);
    }

    static void all() {
        hour();
        plate();
        want();
        wantedCells();
        wantedRefusals();
        wantedFaults();
        lit();
        litWay();
        may();
        fewest();
        fewestAtHours();
        mostWanted();
        fewestSpent();
        hole();
        leastRow();
        few();
        fewSum();
    }

    /** A PLATE of w by h at z 5 (SURFACE 0), a WALL of the same CELLS at z 15 (1), light straight from one to the other. */
    private static Run straight(Run x, int w, int h) {
        x.does("surface", 0, 2, 5, 10, 10, w, h).does("surface", 0, 2, 15, 10, 10, w, h);
        return x.does("plate", 0).does("hour", 0, 0, 1);
    }

    private static void hour() {
        Sentence.holds(18, "HOURS, 6 ever, numbered from 0 on as they come", x -> {
            for (int h = 0; h < 6; h++) {
                x.due(h, "many", 3).due(h, "hour", 1, h, 0);
            }
            x.due(FULL, "hour", 1, 0, 0).due(FULL, "hour", -9, 9, -9).due(6, "many", 3);
        });
        Sentence.holds(18, "each a direction of light (-9 .. 9 each, not all 0)", x -> {
            x.due(OUTSIDE, "hour", 0, 0, 0);
            int[] way = new int[3];
            for (int axis = 0; axis < 3; axis++) {
                for (int wrong : new int[] {-10, 10, LEAST, MOST}) {
                    way[axis] = wrong;
                    x.due(OUTSIDE, "hour", way[0], way[1], way[2]);
                }
                way[axis] = 0;
            }
            x.due(0, "many", 3).due(0, "hour", 9, 0, 0).due(1, "hour", 0, 9, 0).due(2, "hour", 0, 0, 9);
            x.due(3, "hour", -9, -9, -9).due(4, "hour", 0, 0, -1).due(5, "hour", 0, 1, 0);
        });
        Sentence.holds(18, "An HOUR: its number. OUTSIDE; FULL.", x -> {
            for (int h = 0; h < 6; h++) {
                x.does("hour", 1, 0, 0);
            }
            x.due(OUTSIDE, "hour", 0, 0, 0).due(OUTSIDE, "hour", 10, 0, 0).due(OUTSIDE, "hour", 0, -10, 0);
            x.due(OUTSIDE, "hour", 0, 0, 10).due(FULL, "hour", 0, 0, 9);
        });
    }

    private static void plate() {
        Sentence.holds(19, "THE PLATE is a SURFACE (none at first)", x -> {
            x.due(NONE, "plate", -1).does("surface", 0, 0, 0, 0, 0, 1, 1).due(STATE, "fewest").due(NONE, "plate", 0);
        });
        Sentence.holds(19, "THE PLATE becomes a SURFACE (-1: none): what it was (NONE). UNKNOWN.", x -> {
            x.due(UNKNOWN, "plate", 0).does("surface", 0, 0, 0, 0, 0, 1, 1).does("surface", 1, 0, 0, 0, 0, 1, 1);
            x.due(NONE, "plate", 1).due(1, "plate", 1).due(1, "plate", 0);
            for (int wrong : new int[] {-2, 2, 9, 10, LEAST, MOST}) {
                x.due(UNKNOWN, "plate", wrong);
            }
            x.due(0, "plate", -1).due(NONE, "plate", -1).due(STATE, "fewest").due(NONE, "plate", 0);
        });
        Sentence.holds(19, "THE PLATE becomes a SURFACE (-1: none)", x -> {
            // Nothing else changes: what is WANTED stays, of THE PLATE's own CELLS, too.
            x.does("surface", 0, 0, 0, 0, 0, 1, 1).does("hour", 1, 0, 0).does("want", 0, 0, 0, 1).does("paint", 0, 0, 7);
            x.does("plate", 0).due(1, "many", 5).due(NONE, "fewest").does("plate", -1).due(1, "many", 5);
            x.due(0, "want", 0, 0, 0, 1).due(7, "colour", 0, 0).due(1, "many", 3).due(1, "many", 0);
        });
    }

    private static void want() {
        Sentence.holds(20, "A CELL of a SURFACE is WANTED lit at an HOUR, or not: 1; 0: it was so.", x -> {
            x.does("surface", 0, 0, 0, 0, 0, 8, 8).does("hour", 1, 0, 0).does("hour", 1, 0, 0);
            for (int cell : new int[] {0, 31, 32, 63}) {
                x.due(0, "want", 0, 0, cell, 0).due(1, "want", 0, 0, cell, 1).due(0, "want", 0, 0, cell, 1);
                x.due(1, "many", 5).due(0, "want", 1, 0, cell, 0).due(1, "want", 0, 0, cell, 0);
                x.due(0, "want", 0, 0, cell, 0).due(0, "many", 5);
            }
        });
        Sentence.holds(20, "CELLS of SURFACES that should be lit then (none at first)", x -> {
            x.does("surface", 0, 0, 0, 0, 0, 2, 1).does("surface", 1, 0, 0, 0, 0, 2, 1);
            for (int h = 0; h < 6; h++) {
                x.does("hour", 1, 0, 0);
                for (int k = 0; k < 4; k++) {
                    x.due(0, "want", h, k / 2, k % 2, 0);
                }
            }
            // Another HOUR's is another, and so is the like CELL of another SURFACE.
            x.due(1, "want", 5, 1, 1, 1).due(0, "want", 4, 1, 1, 0).due(0, "want", 5, 0, 1, 0).due(0, "want", 5, 1, 0, 0);
        });
        Sentence.holds(20, "or not: 1; 0: it was so. UNKNOWN.", x -> {
            x.due(UNKNOWN, "want", 0, 0, 0, 1).does("hour", 1, 0, 0).due(UNKNOWN, "want", 0, 0, 0, 1);
            x.does("surface", 0, 0, 0, 0, 0, 2, 3).due(1, "want", 0, 0, 5, 1);
            for (int wrong : new int[] {-1, 6, LEAST, MOST}) {
                x.due(UNKNOWN, "want", wrong, 0, 0, 1).due(UNKNOWN, "want", 0, wrong, 0, 1);
                x.due(UNKNOWN, "want", 0, 0, wrong, 1).due(UNKNOWN, "want", 0, 0, wrong, 0);
            }
            x.due(UNKNOWN, "want", 1, 0, 0, 0).due(UNKNOWN, "want", 0, 1, 0, 0).due(UNKNOWN, "want", 0, 0, 64, 1);
            x.due(1, "many", 5);
        });
    }

    /** SURFACES of 64, 1 and 4 CELLS and two HOURS. */
    private static Run stocked(Run x) {
        x.does("surface", 0, 0, 0, 0, 0, 8, 8).does("surface", 1, 0, 1, 0, 0, 1, 1).does("surface", 2, 0, 2, 0, 0, 2, 2);
        return x.does("hour", 1, 0, 0).does("hour", 0, 1, 0);
    }

    private static void wantedCells() {
        Sentence.holds(21, "two each (SURFACE, CELL), n of them from i on (others go): how many unlike ones.", x -> {
            stocked(x).row(0, 0, 63, 1, 0, 0, 63, 2).does("want", 0, 0, 5, 1).does("want", 1, 0, 5, 1);
            x.due(2, "wanted", 0, 0, 2, 0, 3).due(3, "many", 5).due(0, "want", 0, 0, 5, 0).due(0, "want", 1, 0, 5, 1);
            x.due(0, "want", 0, 0, 63, 1).due(0, "want", 0, 1, 0, 1).due(1, "wanted", 0, 0, 2, 4, 1);
            x.due(2, "many", 5).due(0, "want", 0, 1, 0, 0).due(2, "wanted", 0, 0, 2, 2, 2);
        });
        Sentence.holds(21, "WANTED of an HOUR come by cells of a SHEET, taken as a row of a LANE", x -> {
            // What happens to the SHEET later is no matter; a byte or a short does as well as an int.
            for (int lane = 0; lane < 3; lane++) {
                Run y = stocked(x.another()).rowOf(lane, lane, 0, 63, 2, 3).due(2, "wanted", 1, lane, lane, 0, 2);
                y.does("put", lane, 1, 0).does("lose", lane).due(0, "want", 1, 0, 63, 1).due(0, "want", 1, 2, 3, 1);
                y.due(0, "want", 1, 0, 0, 0).due(0, "want", 0, 0, 63, 0).due(2, "many", 5);
            }
            x.due(UNKNOWN, "wanted", 0, 0, 0, 0, 0);
        });
        Sentence.holds(21, "n of them from i on (others go)", x -> {
            // None of them is none; then all others go.
            stocked(x).row(0, 0, 0).does("want", 0, 0, 0, 1).does("want", 0, 2, 3, 1).does("want", 1, 0, 0, 1);
            x.due(0, "wanted", 0, 0, 2, 0, 0).due(1, "many", 5).due(1, "wanted", 0, 0, 2, 0, 1);
            x.due(0, "wanted", 0, 0, 2, 2, 0).due(1, "many", 5).does("sheet", 1, 0, 0).due(0, "wanted", 1, 1, 0, 0, 0);
            x.due(0, "many", 5);
        });
        Sentence.holds(21, "how many unlike ones", x -> {
            // The most: 32 of them in a SHEET of 64, all alike, then all unlike, up to CELL 63.
            int[] pairs = new int[64];
            stocked(x).rowOf(0, 0, pairs).due(1, "wanted", 0, 0, 0, 0, 32).due(1, "many", 5);
            for (int k = 0; k < 32; k++) {
                pairs[2 * k + 1] = 2 * k + 1;
            }
            x.rowOf(0, 0, pairs).due(32, "wanted", 0, 0, 0, 0, 32).due(0, "want", 0, 0, 63, 1);
            x.due(0, "want", 0, 0, 62, 0).due(-13, "wanted", 0, 0, 0, 0, 33).due(-13, "wanted", 0, 0, 0, 1, 32);
            x.due(32, "many", 5).due(1, "wanted", 0, 0, 0, 62, 1).due(1, "many", 5);
        });
        Sentence.holds(21, "UNKNOWN: a SURFACE, a CELL.", x -> {
            stocked(x).row(0, 0, 1, 3, 0, 0, 64, 1, 1, 2, 3).does("want", 0, 0, 9, 1);
            x.due(-13, "wanted", 0, 0, 2, 0, 6).due(3, "fault");
            x.due(UNKNOWN, "wanted", 0, 0, 2, 0, 2).due(0, "fault").due(UNKNOWN, "wanted", 0, 0, 2, 2, 1);
            x.due(UNKNOWN, "wanted", 0, 0, 2, 4, 1).due(UNKNOWN, "wanted", 0, 0, 2, 6, 2).due(0, "fault");
            x.due(UNKNOWN, "wanted", 0, 0, 2, 0, 5).due(1, "many", 5).due(0, "want", 0, 0, 9, 1);
            for (int wrong : new int[] {-1, 4, 63, LEAST, MOST}) {
                x.does("put", 0, 9, wrong).due(UNKNOWN, "wanted", 0, 0, 2, 8, 1);
            }
            x.does("put", 0, 9, 0);
            for (int wrong : new int[] {-1, 3, 10, LEAST, MOST}) {
                x.does("put", 0, 8, wrong).due(UNKNOWN, "wanted", 0, 0, 2, 8, 1);
            }
            x.due(1, "many", 5).does("put", 0, 8, 2).does("put", 0, 9, 3).due(1, "wanted", 0, 0, 2, 8, 1);
        });
    }

    private static void wantedRefusals() {
        Sentence.holds(21, "UNKNOWN: HOUR, SHEET; OUTSIDE: lane", x -> {
            stocked(x).row(0, 0, 0);
            for (int wrong : new int[] {-1, 6, LEAST, MOST}) {
                x.due(UNKNOWN, "wanted", wrong, 0, 2, 0, 1).due(UNKNOWN, "wanted", 0, wrong, 2, 0, 1);
                x.due(UNKNOWN, "wanted", wrong, 0, 3, 0, -1).due(UNKNOWN, "wanted", 0, wrong, -1, 0, -1);
            }
            x.due(UNKNOWN, "wanted", 2, 0, 2, 0, 1).due(UNKNOWN, "wanted", 0, 4, 2, 0, 1);
            x.due(UNKNOWN, "wanted", 2, 1, 0, 0, 1).due(0, "fault").due(1, "wanted", 1, 0, 2, 0, 1);
        });
        Sentence.holds(21, "OUTSIDE: lane; FAULTS CAST (nothing is no CAST), NULL, SIZE: n is below 0", x -> {
            stocked(x).row(0, 0, 0);
            for (int wrong : new int[] {-1, 3, LEAST, MOST}) {
                x.due(OUTSIDE, "wanted", 0, 0, wrong, 0, 1).due(OUTSIDE, "wanted", 0, 0, wrong, 9, -1);
                x.due(-11, "wanted", 0, 1, 0, 0, 0).due(OUTSIDE, "wanted", 0, 1, wrong, 0, 0).due(0, "fault");
            }
        });
    }

    private static void wantedFaults() {
        Sentence.holds(21, "FAULTS CAST (nothing is no CAST), NULL, SIZE", x -> {
            stocked(x);
            for (int lane = 0; lane < 3; lane++) {
                x.due(-11, "wanted", 0, 3, lane, 0, 0).due(1, "fault").due(-11, "wanted", 0, 3, lane, -1, -1);
                x.does("sheet", lane, lane, 2);
            }
            for (int has = 0; has < 3; has++) {
                for (int lane = 0; lane < 3; lane++) {
                    x.due(has == lane ? 1 : -12, "wanted", 0, has, lane, 0, 1).due(has == lane ? 0 : 2, "fault");
                    x.due(has == lane ? -14 : -12, "wanted", 0, has, lane, 0, -1).due(has == lane ? 4 : 2, "fault");
                    x.due(has == lane ? -13 : -12, "wanted", 0, has, lane, 3, 0).due(has == lane ? 3 : 2, "fault");
                }
            }
        });
        Sentence.holds(21, "SIZE: n is below 0, INDEX: not all cells are there", x -> {
            stocked(x).row(0, 0, 0, 0, 1, 9).does("want", 0, 0, 7, 1);
            for (int n : new int[] {-1, -2, LEAST, LEAST + 1, -1 << 30}) {
                x.due(-14, "wanted", 0, 0, 2, 0, n).due(4, "fault").due(-14, "wanted", 0, 0, 2, -1, n);
                x.due(-14, "wanted", 0, 0, 2, 9, n).due(4, "fault");
            }
            // Five cells: of the third of them one cell is there and one is not.
            for (int n : new int[] {3, 4, 1 << 30, MOST, (1 << 30) + 1, 1 << 30 | 1 << 29}) {
                x.due(-13, "wanted", 0, 0, 2, 0, n).due(3, "fault").due(-13, "wanted", 0, 0, 2, -1, n);
            }
            x.due(-13, "wanted", 0, 0, 2, 4, 1).due(-13, "wanted", 0, 0, 2, MOST, 1).due(-13, "wanted", 0, 0, 2, LEAST, 1);
            x.due(-13, "wanted", 0, 0, 2, -1, 1).due(-13, "wanted", 0, 0, 2, -2, 1);
            x.due(-13, "wanted", 0, 0, 2, MOST, MOST).due(1, "many", 5).due(0, "want", 0, 0, 7, 1);
            // All cells there, but a CELL that is not: INDEX comes ahead of it.
            x.due(-13, "wanted", 0, 0, 2, 3, 2).due(UNKNOWN, "wanted", 0, 0, 2, 3, 1).due(2, "wanted", 0, 0, 2, 0, 2);
        });
        Sentence.holds(21, "(of cells from i on also where i is not 0 .. how many there are, if none of them is taken, too)",
            x -> {
                stocked(x).row(0, 0, 0, 0).does("sheet", 1, 2, 0);
                for (int i = 0; i < 4; i++) {
                    x.due(0, "wanted", 0, 0, 2, i, 0).due(0, "fault");
                }
                for (int wrong : new int[] {-1, 4, 5, LEAST, MOST}) {
                    x.due(-13, "wanted", 0, 0, 2, wrong, 0).due(3, "fault");
                }
                x.due(0, "wanted", 0, 1, 2, 0, 0).due(-13, "wanted", 0, 1, 2, 1, 0).due(-13, "wanted", 0, 1, 2, -1, 0);
            });
    }

    private static void lit() {
        Sentence.holds(22, "STATE: there is no PLATE (ahead); UNKNOWN: HOUR, CELL.", x -> {
            x.due(STATE, "lit", 0, 0).due(STATE, "lit", -1, -1);
            straight(x, 3, 2).due(100, "lit", 0, 0).due(105, "lit", 0, 5);
            for (int wrong : new int[] {-1, 6, 64, LEAST, MOST}) {
                x.due(UNKNOWN, "lit", wrong, 0).due(UNKNOWN, "lit", 0, wrong);
            }
            x.due(UNKNOWN, "lit", 1, 0).does("hour", 0, 0, 2).due(100, "lit", 1, 0).due(UNKNOWN, "lit", 2, 0);
            x.does("plate", -1).due(STATE, "lit", 0, 0).due(STATE, "lit", 9, 9).due(STATE, "lit", 0, 6);
        });
        Sentence.holds(22, "What the light of a HOLE ENDS at at an HOUR, as ray().", x -> {
            straight(x, 8, 8).due(100, "lit", 0, 0).due(163, "lit", 0, 63).does("hour", 0, 0, -9).due(NONE, "lit", 1, 0);
            // By two CELLS and a half aside it comes from a middle to a line between CELLS, or to an edge.
            x.does("hour", 1, 0, 4).does("hour", -1, 0, 4);
            x.due(103, "lit", 2, 0).due(107, "lit", 2, 4).due(NONE, "lit", 2, 5);
            x.due(100, "lit", 3, 2).due(NONE, "lit", 3, 1).due(104, "lit", 3, 6);
        });
        Sentence.holds(22, "from that middle in the light's direction (all twice as fine)", x -> {
            // From (10 1/2, 10 1/2, 5) by (1, -1, 2): at z 6 exactly (11, 10), at z 7 half way on, at z 8 (12, 9).
            x.does("surface", 0, 2, 5, 10, 10, 1, 1).does("plate", 0).does("hour", 1, -1, 2);
            x.does("surface", 0, 2, 8, 8, 8, 8, 8).due(112, "lit", 0, 0);
            x.does("surface", 0, 2, 6, 11, 9, 1, 1).due(112, "lit", 0, 0).does("surface", 0, 2, 6, 10, 10, 1, 1);
            x.due(112, "lit", 0, 0).does("surface", 0, 2, 6, 11, 10, 1, 1).due(400, "lit", 0, 0);
            x.does("surface", 0, 0, 11, 10, 6, 1, 1).due(400, "lit", 0, 0);
        });
    }

    private static void litWay() {
        Sentence.holds(22, "it COMES to other SURFACES as RAYS do (never to THE PLATE)", x -> {
            // A MIRROR behind throws the light back through THE PLATE, wherever that is.
            x.does("surface", 0, 2, 5, 0, 0, 2, 2).does("surface", 1, 2, 9, 0, 0, 2, 2).does("surface", 0, 2, 1, 0, 0, 2, 2);
            x.does("hour", 0, 0, 1).does("plate", 0).due(203, "lit", 0, 3).due(3, "ray", 1, 1, 6, 0, 0, 1);
            x.does("plate", 2).due(3, "lit", 0, 3).does("plate", 1).due(NONE, "lit", 0, 3);
            // As THE PLATE a MIRROR throws nothing back.
            x.does("hour", 0, 0, -1).due(3, "lit", 1, 3).does("surface", 1, 2, 3, 0, 0, 2, 2).does("plate", 2);
            x.due(NONE, "lit", 0, 0).does("plate", 3).due(200, "lit", 1, 0).due(0, "lit", 0, 0);
        });
        Sentence.holds(22, "a HOLE through the middle of a CELL of it lets a RAY through, from that middle", x -> {
            // What lies in the same place as THE PLATE is not above 0 away.
            x.does("surface", 0, 2, 5, 0, 0, 2, 2).does("surface", 0, 2, 5, 0, 0, 2, 2).does("plate", 0);
            x.does("hour", 0, 0, 1).does("hour", 1, 0, 0).due(NONE, "lit", 0, 0).due(NONE, "lit", 1, 0);
            x.does("surface", 0, 0, 2, 0, 5, 2, 1).due(200, "lit", 1, 0).due(201, "lit", 1, 3);
            x.does("surface", 1, 2, 6, 0, 0, 2, 2).due(100, "lit", 0, 0);
        });
        Sentence.holds(22, "it COMES to other SURFACES as RAYS do", x -> {
            // Thrown back three times it ends at a WALL; LOST at one more MIRROR.
            x.does("surface", 0, 2, 0, 6, 1, 1, 1).does("surface", 1, 0, 4, 0, 0, 8, 8).does("surface", 1, 0, 8, 0, 0, 8, 8);
            x.does("plate", 0).does("hour", 2, 0, 1).due(NONE, "lit", 0, 0).does("surface", 0, 2, 6, 4, 0, 4, 8);
            x.due(305, "lit", 0, 0).does("surface", 2, 2, 3, 4, 0, 4, 8).due(NONE, "lit", 0, 0);
            x.does("paint", 4, 4, 1).due(404, "lit", 0, 0);
        });
    }

    private static void may() {
        Sentence.holds(23, "A HOLE MAY be, if at each HOUR what its RAY ENDS at is WANTED then, or nothing.", x -> {
            straight(x, 2, 1).due(0, "may", 0).does("want", 0, 1, 0, 1).due(1, "may", 0).due(0, "may", 1);
            for (int h = 1; h < 6; h++) {
                x.does("hour", 0, 0, 1 + h).due(0, "may", 0).does("want", h, 1, 1, 1).due(0, "may", 0);
                x.does("want", h, 1, 0, 1).due(1, "may", 0);
            }
            x.due(0, "may", 1).does("want", 0, 1, 1, 1).due(1, "may", 1).does("want", 5, 1, 0, 0).due(0, "may", 0);
            x.due(1, "may", 1);
        });
        Sentence.holds(23, "what its RAY ENDS at is WANTED then", x -> {
            // SURFACE 0, CELL 0, and SURFACE 9, CELL 63: the first and the last that there can be.
            x.does("surface", 0, 2, 15, 10, 10, 1, 1).does("surface", 0, 2, 5, 10, 10, 1, 1).does("plate", 1);
            x.does("hour", 0, 0, 1).due(0, "lit", 0, 0).due(0, "may", 0).due(0, "fewest").does("want", 0, 0, 0, 1);
            x.due(1, "may", 0).due(1, "fewest").due(1, "hole", 0).does("hour", 0, 0, -1);
            for (int s = 2; s < 10; s++) {
                x.does("surface", 0, 2, 0, s < 9 ? 30 : 3, s < 9 ? 30 : 3, 8, 8);
            }
            x.due(963, "lit", 1, 0).due(0, "may", 0).due(NONE, "fewest").does("want", 1, 9, 63, 1).due(1, "may", 0);
            x.due(1, "fewest").due(1, "hole", 0);
        });
        Sentence.holds(23, "is WANTED then, or nothing", x -> {
            // Nothing is enough, whatever is WANTED; at no HOURS at all, too; and LOST is nothing.
            x.does("surface", 0, 0, 6, 1, 1, 1, 1).does("plate", 0).due(1, "may", 0).does("hour", 0, 1, 0).due(1, "may", 0);
            x.does("want", 0, 0, 0, 1).due(1, "may", 0).does("hour", 1, 0, 0).due(1, "may", 0);
            x.does("surface", 1, 0, 8, 0, 0, 8, 8).does("surface", 1, 0, 4, 0, 0, 8, 8).due(NONE, "lit", 1, 0);
            x.due(1, "may", 0).does("surface", 0, 0, 7, 0, 0, 8, 8).due(0, "may", 0).does("want", 0, 3, 9, 1);
            x.due(0, "may", 0).does("want", 1, 3, 9, 1).due(1, "may", 0);
        });
        Sentence.holds(23, "Whether a HOLE MAY be: 1, 0. STATE: there is no PLATE (ahead); UNKNOWN.", x -> {
            x.due(STATE, "may", 0).due(STATE, "may", -1).does("surface", 0, 0, 0, 0, 0, 2, 3).due(STATE, "may", 0);
            x.does("plate", 0).due(1, "may", 0).due(1, "may", 5);
            for (int wrong : new int[] {-1, 6, LEAST, MOST}) {
                x.due(UNKNOWN, "may", wrong);
            }
            x.does("plate", -1).due(STATE, "may", 0).due(STATE, "may", 6);
        });
    }

    /**
     * A PLATE of w by h; light along x, by which HOLES of one row light one CELL of SURFACE 1, and along y, by which
     * HOLES of one column light one CELL of SURFACE 2, all WANTED; straight light, in whose way there is nothing yet.
     */
    private static Run grid(Run x, int w, int h) {
        x.does("surface", 0, 2, 5, 10, 10, w, h).does("surface", 0, 0, 30, 10, 5, h, 1);
        x.does("surface", 0, 1, 30, 10, 5, w, 1).does("plate", 0);
        x.does("hour", 1, 0, 0).does("hour", 0, 1, 0).does("hour", 0, 0, 1);
        for (int j = 0; j < h; j++) {
            x.does("want", 0, 1, j, 1);
        }
        for (int i = 0; i < w; i++) {
            x.does("want", 1, 2, i, 1);
        }
        return x;
    }

    /** A HOLE of a grid may not be any more: its straight light falls on a WALL of one CELL that is not WANTED. */
    private static Run forbid(Run x, int i, int j) {
        return x.does("surface", 0, 2, 15, 10 + i, 10 + j, 1, 1);
    }

    private static void chosen(Run x, int cells, int... holes) {
        x.due(holes.length, "fewest");
        int k = 0;
        for (int cell = 0; cell < cells; cell++) {
            boolean is = k < holes.length && holes[k] == cell;
            k += is ? 1 : 0;
            x.due(is ? 1 : 0, "hole", cell);
        }
    }

    private static void fewest() {
        Sentence.holds(24, "by which all that is WANTED is lit", x -> {
            // Nothing WANTED takes no HOLES; each CELL of the WALL its own.
            straight(x, 3, 1).due(0, "fewest");
            for (int cell = 0; cell < 3; cell++) {
                x.does("want", 0, 1, cell, 1).due(cell + 1, "fewest");
            }
            x.does("want", 0, 1, 1, 0).due(2, "fewest");
        });
        Sentence.holds(24, "all that is WANTED is lit, with the fewest", x -> {
            // The most that MAY be are 16: of four rows and four columns each HOLE lights one and one.
            grid(x, 4, 4).due(4, "fewest");
            for (int k = 1; k < 4; k++) {
                // The columns that are left need one each, even with a row less.
                x.does("want", 0, 1, k, 0).due(5 - k, "fewest").does("want", 1, 2, k, 0).due(4 - k, "fewest");
            }
        });
        Sentence.holds(24, "with the fewest", x -> {
            grid(x, 2, 2).due(2, "fewest");
            forbid(x, 0, 0).due(2, "fewest");
            forbid(x, 1, 1).due(2, "fewest");
            // With HOLE 1 gone, too, the first row stays dark.
            forbid(x, 1, 0).due(NONE, "fewest");
        });
        Sentence.holds(24, "FEWEST HOLES: how many; NONE: all that MAY be do not light all.", x -> {
            straight(x, 2, 2).does("want", 0, 0, 0, 1).due(NONE, "fewest").does("want", 0, 0, 0, 0).due(0, "fewest");
            // A CELL that no HOLE lights; a CELL whose HOLE may not be, since it lights another at another HOUR.
            x.does("surface", 1, 0, 30, 0, 0, 1, 1).does("want", 0, 2, 0, 1).due(NONE, "fewest").does("want", 0, 2, 0, 0);
            x.does("want", 0, 1, 0, 1).due(1, "fewest").does("hour", 0, 0, 2).due(NONE, "fewest");
            x.does("want", 1, 1, 1, 1).due(NONE, "fewest").does("want", 1, 1, 0, 1).due(NONE, "fewest");
            x.does("want", 0, 1, 1, 1).due(2, "fewest");
        });
        Sentence.holds(24, "STATE: there is no PLATE; SPENT.", x -> {
            x.due(STATE, "fewest").does("surface", 0, 0, 0, 0, 0, 8, 8).due(STATE, "fewest").does("plate", 0);
            x.due(SPENT, "fewest").does("plate", -1).due(STATE, "fewest");
        });
    }

    private static void fewestAtHours() {
        Sentence.holds(24, "HOURS, 6 ever", x -> {
            // Whichever two HOURS of the six are those of the rows and of the columns.
            for (int rows = 0; rows < 6; rows++) {
                for (int columns = 0; columns < 6; columns++) {
                    if (rows != columns) {
                        gridAt(x.another(), rows, columns);
                    }
                }
            }
            x.due(STATE, "fewest");
        });
        Sentence.holds(24, "all that is WANTED is lit", x -> {
            // At each of six HOURS another HOLE alone lights something, a WALL of one CELL of its own.
            x.does("surface", 0, 2, 5, 10, 10, 8, 2).does("plate", 0);
            for (int h = 0; h < 6; h++) {
                x.does("hour", 0, 9, 1 + h).does("surface", 0, 1, 20, 10 + h, 6 + h, 1, 1).due(100 + 100 * h, "lit", h, h);
                x.does("want", h, 1 + h, 0, 1);
            }
            chosen(x, 16, 0, 1, 2, 3, 4, 5);
            for (int h = 0; h < 6; h++) {
                x.does("want", h, 1 + h, 0, 0).due(5, "fewest").due(0, "may", h).due(0, "hole", h);
                x.due(1, "hole", (h + 1) % 6).does("want", h, 1 + h, 0, 1);
            }
            // A CELL that is WANTED at an HOUR more, at which it is not lit.
            x.does("want", 5, 1, 0, 1).due(NONE, "fewest").does("want", 5, 1, 0, 0).due(6, "fewest");
        });
    }

    private static void mostWanted() {
        Sentence.holds(24, "a set of HOLES that MAY be, by which all that is WANTED is lit", x -> {
            // The most that can be lit: by 16 HOLES at six HOURS a CELL each. Then no HOLE can be spared.
            straight(x, 8, 2);
            for (int h = 1; h < 6; h++) {
                x.does("hour", 0, 0, 1 + h);
            }
            for (int h = 0; h < 6; h++) {
                for (int cell = 0; cell < 16; cell++) {
                    x.does("want", h, 1, cell, 1);
                }
            }
            x.due(96, "many", 5).due(16, "fewest").due(1, "hole", 0).due(1, "hole", 15);
            x.does("want", 5, 1, 15, 0).due(NONE, "fewest").does("want", 5, 0, 15, 1).due(NONE, "fewest");
            for (int h = 0; h < 5; h++) {
                x.does("want", h, 1, 15, 0).due(NONE, "fewest");
            }
            x.does("want", 5, 0, 15, 0).due(15, "fewest").due(0, "hole", 15).due(1, "hole", 14);
        });
    }

    /** A grid of 3 by 2 with these HOURS; at the others the light falls on nothing. */
    private static void gridAt(Run x, int rows, int columns) {
        x.does("surface", 0, 2, 5, 10, 10, 3, 2).does("surface", 0, 0, 30, 10, 5, 2, 1);
        x.does("surface", 0, 1, 30, 10, 5, 3, 1).does("plate", 0);
        for (int h = 0; h < 6; h++) {
            x.does("hour", h == rows ? 1 : 0, h == columns ? 1 : 0, h == rows || h == columns ? 0 : -1);
        }
        x.does("want", rows, 1, 0, 1).does("want", rows, 1, 1, 1);
        x.does("want", columns, 2, 0, 1).does("want", columns, 2, 1, 1).does("want", columns, 2, 2, 1);
        chosen(x, 6, 0, 1, 5);
        x.does("want", columns, 2, 0, 0);
        chosen(x, 6, 1, 5);
        x.does("want", rows, 1, 0, 0);
        chosen(x, 6, 4, 5);
        x.does("want", columns, 2, 2, 0);
        chosen(x, 6, 4);
        x.does("want", columns, 1, 0, 1).due(NONE, "fewest").does("want", columns, 1, 0, 0);
        x.does("want", columns, 2, 1, 0).due(NONE, "fewest").does("want", rows, 1, 1, 0).due(0, "fewest");
    }

    private static void fewestSpent() {
        Sentence.holds(24, "more than 16 HOLES that MAY be: SPENT", x -> {
            // 6 by 3 HOLES of which those MAY be whose CELLS are WANTED.
            straight(x, 6, 3);
            for (int cell = 0; cell < 18; cell++) {
                x.due(cell > 16 ? SPENT : cell, "fewest").does("want", 0, 1, 17 - cell, 1);
            }
            x.due(SPENT, "fewest").does("want", 0, 1, 0, 0).due(SPENT, "fewest").due(SPENT, "hole", 0);
            x.does("want", 0, 1, 9, 0).due(16, "fewest").due(0, "hole", 0).due(0, "hole", 9).due(1, "hole", 17);
        });
        Sentence.holds(24, "a set of HOLES that MAY be", x -> {
            // Without HOURS all MAY be, of which none is needed: 16 are not too many, 18 are.
            x.does("surface", 0, 0, 0, 0, 0, 8, 2).does("surface", 0, 0, 0, 0, 0, 6, 3).does("plate", 0);
            x.due(0, "fewest").due(0, "hole", 15).does("plate", 1).due(SPENT, "fewest").due(SPENT, "hole", 17);
        });
        Sentence.holds(24, "NONE: all that MAY be do not light all", x -> {
            // SPENT is a refusal and comes ahead of the answer NONE.
            straight(x, 6, 3).does("surface", 1, 0, 30, 0, 0, 1, 1).does("want", 0, 2, 0, 1).due(NONE, "fewest");
            for (int cell = 0; cell < 17; cell++) {
                x.due(NONE, "fewest").does("want", 0, 1, cell, 1);
            }
            x.due(SPENT, "fewest").due(SPENT, "hole", 17).does("want", 0, 1, 0, 0).due(NONE, "fewest").due(NONE, "hole", 0);
        });
    }

    private static void hole() {
        Sentence.holds(25, "Whether a HOLE is one of them: 1, 0. STATE: there is no PLATE (ahead); UNKNOWN", x -> {
            x.due(STATE, "hole", 0).due(STATE, "hole", -1);
            straight(x, 3, 2).due(0, "hole", 0).does("want", 0, 1, 5, 1).due(1, "hole", 5).due(0, "hole", 4);
            for (int wrong : new int[] {-1, 6, LEAST, MOST}) {
                x.due(UNKNOWN, "hole", wrong);
            }
            x.does("plate", -1).due(STATE, "hole", 5).due(STATE, "hole", 6);
        });
        Sentence.holds(25, "UNKNOWN; SPENT, NONE: as fewest().", x -> {
            straight(x, 6, 3).does("want", 0, 0, 0, 1).due(NONE, "hole", 0).due(NONE, "hole", 17);
            x.due(UNKNOWN, "hole", 18).due(UNKNOWN, "hole", -1).does("surface", 0, 0, 0, 0, 0, 8, 8).does("plate", 2);
            x.does("want", 0, 0, 0, 0).due(SPENT, "fewest").due(SPENT, "hole", 0).due(SPENT, "hole", 63);
            x.due(UNKNOWN, "hole", 64);
        });
    }

    private static void leastRow() {
        Sentence.holds(25, "of several the least row of CELLS (in order, the first that is unlike decides)", x -> {
            // {0, 3} and {1, 2} do for two rows and two columns; without HOLE 0 the other alone does.
            chosen(grid(x, 2, 2), 4, 0, 3);
            chosen(forbid(x, 0, 0), 4, 1, 2);
        });
        Sentence.holds(25, "the least row of CELLS", x -> chosen(grid(x, 4, 4), 16, 0, 5, 10, 15));
        Sentence.holds(25, "in order, the first that is unlike decides", x -> {
            // Not the least sum: {1, 3, 8} goes ahead of {2, 3, 7} and {1, 5, 6}.
            chosen(forbid(grid(x, 3, 3), 0, 0), 9, 1, 3, 8);
            chosen(forbid(x, 0, 1), 9, 1, 5, 6);
            chosen(forbid(x, 2, 1), 9, 2, 4, 6);
        });
        Sentence.holds(25, "with the fewest; of several the least row of CELLS", x -> {
            // Three for three columns, of which one must be in the second row; the fewest go ahead of the least row.
            chosen(grid(x, 3, 2), 6, 0, 1, 5);
            chosen(forbid(x, 2, 1), 6, 0, 2, 4);
            // Without HOLES 0 and 3 the first column is dark.
            chosen(forbid(x, 0, 0), 6, 1, 2, 3);
            forbid(x, 0, 1).due(NONE, "fewest").due(NONE, "hole", 1);
        });
    }

    private static void few() {
        Sentence.holds(26, "of COLOURS 1 .. 9 a set of k (1 .. 9) of them", x -> {
            for (int wrong : new int[] {0, 10, -1, LEAST, MOST}) {
                x.due(OUTSIDE, "few", wrong, 0).due(OUTSIDE, "few", wrong, 1);
            }
            // With no PICTURES each set is as good: the least as a number.
            for (int k = 1; k < 10; k++) {
                x.due((1 << k + 1) - 2, "few", k, 0).due(0, "few", k, 1);
            }
        });
        Sentence.holds(26, "FEW COLOURS, as a set (what 0), the sum (1). OUTSIDE.", x -> {
            for (int wrong : new int[] {-1, 2, LEAST, MOST}) {
                x.due(OUTSIDE, "few", 1, wrong).due(OUTSIDE, "few", 9, wrong).due(OUTSIDE, "few", 0, wrong);
            }
            x.show(0, 9).due(1 << 9, "few", 1, 0).due(0, "few", 1, 1).show(3, 1).due(2, "few", 1, 0).due(8, "few", 1, 1);
            x.due(1 << 9 | 2, "few", 2, 0).due(0, "few", 2, 1).due(1022, "few", 9, 0).due(0, "few", 9, 1);
        });
        Sentence.holds(26, "of several the least as a number (bit c for COLOUR c)", x -> {
            // From 1 and 9 each between is as far; of 5 and 6 the nearer is of two; one more goes to the least.
            x.does("board", 0, 0, 0, 0, 2, 1).show(0, 1, 9).due(2, "few", 1, 0).due(8, "few", 1, 1);
            x.due(1 << 1 | 1 << 9, "few", 2, 0).due(1 << 1 | 1 << 2 | 1 << 9, "few", 3, 0);
            x.show(0, 5, 6).due(1 << 5, "few", 1, 0).due(1, "few", 1, 1).due(1 << 5 | 1 << 6, "few", 2, 0);
            x.due(1 << 1 | 1 << 5 | 1 << 6, "few", 3, 0).due(0, "few", 3, 1);
            x.show(0, 4, 6).due(1 << 4, "few", 1, 0).due(2, "few", 1, 1);
        });
    }

    private static void fewSum() {
        Sentence.holds(26, "over all CELLS of all PICTURES that are not bare", x -> {
            // The most: four PICTURES of 64 CELLS, the half of them 1, the other half 9.
            x.does("board", 0, 0, 0, 0, 8, 8).does("sheet", 0, 0, 64).does("sheet", 1, 0, 64);
            for (int i = 0; i < 64; i++) {
                x.does("put", 0, i, 1).does("put", 1, i, 9);
            }
            for (int e = 0; e < 4; e++) {
                x.does("picture", e, e % 2, 0, 0);
            }
            x.due(2, "few", 1, 0).due(1024, "few", 1, 1).due(0, "few", 2, 1);
            // Bare ones are as far from nothing.
            x.does("sheet", 0, 0, 64).does("picture", 0, 0, 0, 0).does("picture", 2, 0, 0, 0);
            x.due(1 << 9, "few", 1, 0).due(0, "few", 1, 1).does("board", 0, 0, 0, 0, 1, 1).due(2, "few", 1, 0);
        });
        Sentence.holds(26, "of the difference of each CELL's COLOUR from the nearest of the set is least", x -> {
            x.does("board", 0, 0, 0, 0, 3, 1).show(0, 1, 2, 9).show(1, 0, 0, 9).show(2, 0, 9, 0).show(3, 1, 0, 0);
            // 1, 1, 2, 9, 9, 9: each of 2 to 9 alone gives 23.
            x.due(1 << 2, "few", 1, 0).due(23, "few", 1, 1).due(1 << 1 | 1 << 9, "few", 2, 0).due(1, "few", 2, 1);
            x.due(1 << 1 | 1 << 2 | 1 << 9, "few", 3, 0).due(0, "few", 3, 1);
        });
    }
}
