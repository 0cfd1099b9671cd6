/** Promises 18 to 26: light, colours. */
public final class LightTest {
    private static final int LEAST = Integer.MIN_VALUE, MOST = Integer.MAX_VALUE;

    private LightTest() {
    }

    public static void main(String[] args) {
        hours();
        plates();
        wants();
        wanted();
        wantedFaults();
        lights();
        plateIsNeverComeTo();
        mays();
        fewestHoles();
        leastRow();
        sixHours();
        fewestEdges();
        fewColours();
        Due.end();
    }

    private static void hours() {
        BentPictures x = new BentPictures();
        int[][] outside = {{0, 0, 0}, {10, 0, 0}, {-10, 0, 0}, {0, 10, 0}, {0, -10, 0}, {0, 0, 10}, {1, 1, -10},
            {MOST, 0, 0}, {0, LEAST, 0}};
        for (int round = 0; round < 2; round++) {
            for (int[] a : outside) {
                Due.is("18: hour, wrong", x.hour(a[0], a[1], a[2]), BentPictures.OUTSIDE);
            }
            for (int h = 0; h < 6 && round == 0; h++) {
                Due.is("18: hour " + h, x.hour(-9, 9, h), h);
            }
        }
        Due.is("18: the seventh", x.hour(1, 0, 0), BentPictures.FULL);
        Due.is("36: many(3)", x.many(3), 6);
    }

    private static void plates() {
        BentPictures x = new BentPictures();
        Due.is("19: plate(0)", x.plate(0), BentPictures.UNKNOWN);
        Due.is("19: plate(-2)", x.plate(-2), BentPictures.UNKNOWN);
        Due.is("19: plate(-1)", x.plate(-1), BentPictures.NONE);
        x.surface(0, 0, 0, 0, 0, 1, 1);
        x.surface(1, 0, 0, 0, 0, 1, 1);
        Due.is("19: plate(1)", x.plate(1), BentPictures.NONE);
        Due.is("19: plate(2)", x.plate(2), BentPictures.UNKNOWN);
        Due.is("19: plate(0)", x.plate(0), 1);
        Due.is("19: plate(0)", x.plate(0), 0);
        Due.is("19: plate(-1)", x.plate(-1), 0);
        Due.is("19: plate(-1)", x.plate(-1), BentPictures.NONE);
    }

    private static void wants() {
        BentPictures x = new BentPictures();
        x.surface(0, 0, 0, 0, 0, 8, 8);
        x.surface(1, 0, 1, 0, 0, 2, 2);
        Due.is("20: HOUR", x.want(0, 0, 0, true), BentPictures.UNKNOWN);
        x.hour(1, 0, 0);
        x.hour(0, 1, 0);
        Due.is("20: not WANTED anyway", x.want(0, 0, 63, false), 0);
        Due.is("20: want(0, 0, 63, true)", x.want(0, 0, 63, true), 1);
        Due.is("20: want(0, 0, 63, true)", x.want(0, 0, 63, true), 0);
        Due.is("20: another HOUR", x.want(1, 0, 63, true), 1);
        Due.is("20: a MIRROR's CELL", x.want(1, 1, 3, true), 1);
        Due.is("20: many(5)", x.many(5), 3);
        Due.is("20: want(0, 0, 63, false)", x.want(0, 0, 63, false), 1);
        Due.is("20: many(5)", x.many(5), 2);
        Due.is("20: CELL", x.want(0, 1, 4, true), BentPictures.UNKNOWN);
        Due.is("20: CELL", x.want(0, 0, -1, true), BentPictures.UNKNOWN);
        Due.is("20: SURFACE", x.want(0, 2, 0, true), BentPictures.UNKNOWN);
        Due.is("20: SURFACE", x.want(0, -1, 0, true), BentPictures.UNKNOWN);
        Due.is("20: HOUR", x.want(2, 0, 0, true), BentPictures.UNKNOWN);
        Due.is("20: HOUR", x.want(-1, 0, 0, false), BentPictures.UNKNOWN);
    }

    private static BentPictures withRow(int... row) {
        BentPictures x = new BentPictures();
        x.surface(0, 0, 0, 0, 0, 8, 8);
        x.surface(1, 0, 1, 0, 0, 2, 2);
        x.hour(1, 0, 0);
        x.hour(0, 1, 0);
        x.sheet(0, 1, row.length);
        for (int i = 0; i < row.length; i++) {
            x.put(0, i, row[i]);
        }
        return x;
    }

    private static void wanted() {
        BentPictures x = withRow(9, 0, 63, 0, 0, 0, 63, 1, 3);
        x.want(0, 0, 5, true);
        x.want(1, 0, 6, true);
        Due.is("21: unlike ones, others go", x.wanted(0, 0, 1, 1, 4), 3);
        Due.is("21: many(5)", x.many(5), 4);
        Due.is("21: one that went", x.want(0, 0, 5, true), 1);
        Due.is("21: one that came", x.want(0, 0, 63, true), 0);
        Due.is("21: one that came", x.want(0, 1, 3, true), 0);
        Due.is("21: another HOUR's stays", x.want(1, 0, 6, true), 0);
        Due.is("21: SURFACE", x.wanted(0, 0, 1, 0, 1), BentPictures.UNKNOWN);
        Due.is("21: the last one's CELL", x.wanted(0, 0, 1, 7, 1), 1);
        x.put(0, 8, 4);
        Due.is("21: the last one's CELL", x.wanted(0, 0, 1, 1, 4), BentPictures.UNKNOWN);
        Due.is("35: fault()", x.fault(), 0);
        x.put(0, 8, -1);
        Due.is("21: CELL below", x.wanted(0, 0, 1, 7, 1), BentPictures.UNKNOWN);
        x.put(0, 7, -1);
        Due.is("21: SURFACE below", x.wanted(0, 0, 1, 7, 1), BentPictures.UNKNOWN);
        Due.is("21: refusals change nothing", x.many(5), 2);
        Due.is("21: none at the end", x.wanted(0, 0, 1, 9, 0), 0);
        Due.is("21: many(5)", x.many(5), 1);
    }

    private static void wantedFaults() {
        BentPictures x = withRow(0, 0, 0, 1);
        x.want(0, 0, 7, true);
        Due.is("21: HOUR ahead", x.wanted(2, 0, 3, 0, 1), BentPictures.UNKNOWN);
        Due.is("21: HOUR", x.wanted(-1, 0, 1, 0, 1), BentPictures.UNKNOWN);
        Due.is("21: SHEET", x.wanted(0, 4, 1, 0, 1), BentPictures.UNKNOWN);
        Due.is("21: SHEET", x.wanted(0, -1, 1, 0, 1), BentPictures.UNKNOWN);
        Due.is("21: lane ahead of NULL", x.wanted(0, 1, 3, 0, 1), BentPictures.OUTSIDE);
        Due.is("21: NULL ahead of SIZE", x.wanted(0, 1, 0, 0, -1), -11);
        Due.is("35: fault()", x.fault(), 1);
        Due.is("21: CAST ahead of SIZE", x.wanted(0, 0, 0, 0, -1), -12);
        Due.is("21: SIZE ahead of INDEX", x.wanted(0, 0, 1, -1, -1), -14);
        Due.is("21: SIZE", x.wanted(0, 0, 1, 0, LEAST), -14);
        Due.is("35: fault()", x.fault(), 4);
        Due.is("21: INDEX", x.wanted(0, 0, 1, 1, 2), -13);
        Due.is("21: INDEX", x.wanted(0, 0, 1, -1, 1), -13);
        Due.is("21: INDEX of none below", x.wanted(0, 0, 1, -1, 0), -13);
        Due.is("21: INDEX of none above", x.wanted(0, 0, 1, 5, 0), -13);
        Due.is("21: INDEX far above", x.wanted(0, 0, 1, MOST, MOST), -13);
        Due.is("21: INDEX of very many", x.wanted(0, 0, 1, 0, 1 << 30), -13);
        Due.is("21: INDEX of twice as many", x.wanted(0, 0, 1, 0, 1 << 31 - 1), -13);
        Due.is("35: fault()", x.fault(), 3);
        Due.is("21: faults change nothing", x.want(0, 0, 7, true), 0);
        Due.is("21: wanted(0, 0, 1, 0, 2)", x.wanted(0, 0, 1, 0, 2), 2);
        Due.is("35: fault()", x.fault(), 0);
    }

    /** A PLATE of 3 by 2 at z 5, a WALL at z 15, a MIRROR at x 14; light straight down and to the MIRROR. */
    private static BentPictures darkroom() {
        BentPictures x = new BentPictures();
        x.surface(0, 2, 5, 10, 10, 3, 2);
        x.surface(0, 2, 15, 8, 8, 8, 8);
        x.surface(1, 0, 14, 8, 8, 8, 8);
        x.plate(0);
        x.hour(0, 0, 1);
        x.hour(1, 0, 5);
        return x;
    }

    private static void lights() {
        BentPictures x = darkroom();
        int[][] due = {{118, 119, 120, 126, 127, 128}, {120, 121, 121, 128, 129, 129}};
        for (int h = 0; h < 2; h++) {
            for (int cell = 0; cell < 6; cell++) {
                Due.is("22: lit(" + h + ", " + cell + ")", x.lit(h, cell), due[h][cell]);
            }
        }
        Due.is("22: HOUR", x.lit(2, 0), BentPictures.UNKNOWN);
        Due.is("22: HOUR", x.lit(-1, 0), BentPictures.UNKNOWN);
        Due.is("22: CELL", x.lit(0, 6), BentPictures.UNKNOWN);
        Due.is("22: CELL", x.lit(0, -1), BentPictures.UNKNOWN);
        x.hour(0, 0, -1);
        Due.is("22: to nothing", x.lit(2, 0), BentPictures.NONE);
        // In THE PLATE's own plane nothing is in the way: the MIRROR begins at z 8 only.
        x.hour(1, 0, 0);
        Due.is("22: along THE PLATE", x.lit(3, 0), BentPictures.NONE);
        x.surface(0, 0, 20, 8, 4, 8, 2);
        Due.is("22: along THE PLATE to a WALL", x.lit(3, 0), 310);
        x.plate(-1);
        Due.is("22: STATE ahead", x.lit(9, 9), BentPictures.STATE);
    }

    private static void plateIsNeverComeTo() {
        BentPictures x = new BentPictures();
        x.surface(0, 2, 5, 0, 0, 2, 2);
        x.surface(1, 2, 9, 0, 0, 2, 2);
        x.surface(0, 2, 1, 0, 0, 2, 2);
        x.hour(0, 0, 1);
        x.plate(0);
        Due.is("22: back through THE PLATE", x.lit(0, 3), 203);
        Due.is("10: a RAY COMES to THE PLATE", x.ray(1, 1, 6, 0, 0, 1), 3);
        x.plate(1);
        Due.is("22: another PLATE", x.lit(0, 3), BentPictures.NONE);
    }

    private static void mays() {
        BentPictures x = darkroom();
        Due.is("23: not WANTED", x.may(1), 0);
        x.want(0, 1, 19, true);
        Due.is("23: WANTED at one of two HOURS", x.may(1), 0);
        x.want(1, 1, 21, true);
        Due.is("23: WANTED at both", x.may(1), 1);
        Due.is("23: another", x.may(2), 0);
        x.hour(0, 0, -1);
        Due.is("23: nothing at a third", x.may(1), 1);
        Due.is("23: CELL", x.may(6), BentPictures.UNKNOWN);
        Due.is("23: CELL", x.may(-1), BentPictures.UNKNOWN);
        x.plate(-1);
        Due.is("23: STATE ahead", x.may(6), BentPictures.STATE);
        BentPictures y = new BentPictures();
        y.surface(0, 0, 0, 0, 0, 1, 1);
        y.plate(0);
        Due.is("23: no HOURS", y.may(0), 1);
        // Between MIRRORS the light is LOST: that is nothing.
        y.surface(1, 0, 2, 0, 0, 8, 8);
        y.surface(1, 0, 1, 0, 0, 8, 8);
        y.plate(1);
        y.surface(1, 0, 3, 0, 0, 8, 8);
        y.hour(1, 0, 0);
        Due.is("22: LOST", y.lit(0, 0), BentPictures.NONE);
        Due.is("23: LOST", y.may(0), 1);
    }

    private static void fewestHoles() {
        BentPictures x = darkroom();
        Due.is("24: nothing WANTED", x.fewest(), 0);
        Due.is("25: nothing WANTED", x.hole(0), 0);
        x.want(0, 1, 19, true);
        x.want(0, 1, 20, true);
        x.want(1, 1, 21, true);
        Due.is("24: both are needed", x.fewest(), 2);
        int[] due = {0, 1, 1, 0, 0, 0};
        for (int cell = 0; cell < 6; cell++) {
            Due.is("25: hole(" + cell + ")", x.hole(cell), due[cell]);
        }
        x.want(1, 1, 20, true);
        Due.is("24: one can't be lit", x.fewest(), BentPictures.NONE);
        Due.is("25: one can't be lit", x.hole(1), BentPictures.NONE);
        Due.is("25: CELL", x.hole(6), BentPictures.UNKNOWN);
        Due.is("25: CELL", x.hole(-1), BentPictures.UNKNOWN);
        x.want(0, 1, 18, true);
        Due.is("24: three", x.fewest(), 3);
        x.want(0, 0, 0, true);
        Due.is("24: THE PLATE itself is never lit", x.fewest(), BentPictures.NONE);
        x.plate(-1);
        Due.is("24: STATE", x.fewest(), BentPictures.STATE);
        Due.is("25: STATE ahead", x.hole(6), BentPictures.STATE);
    }

    private static void leastRow() {
        BentPictures x = new BentPictures();
        // A MIRROR at x 14 gives HOLES 1 and 2, and 4 and 5, the same CELLS; of like sets the least row.
        x.surface(0, 2, 5, 10, 10, 3, 2);
        x.surface(0, 2, 15, 8, 8, 8, 8);
        x.surface(1, 0, 14, 8, 8, 8, 8);
        x.plate(0);
        x.hour(1, 0, 5);
        x.want(0, 1, 21, true);
        x.want(0, 1, 29, true);
        int[] due = {0, 1, 0, 0, 1, 0};
        int[] may = {0, 1, 1, 0, 1, 1};
        Due.is("24: fewest()", x.fewest(), 2);
        for (int cell = 0; cell < 6; cell++) {
            Due.is("23: may(" + cell + ")", x.may(cell), may[cell]);
            Due.is("25: hole(" + cell + ")", x.hole(cell), due[cell]);
        }
        // A second HOUR, at which HOLE 2 alone of the two lights something.
        x.surface(0, 1, 0, 12, 4, 1, 2);
        x.hour(0, -1, 0);
        x.want(1, 3, 1, true);
        Due.is("22: lit(1, 1)", x.lit(1, 1), BentPictures.NONE);
        Due.is("22: lit(1, 2)", x.lit(1, 2), 301);
        Due.is("22: lit(1, 5)", x.lit(1, 5), 301);
        Due.is("24: fewest()", x.fewest(), 2);
        int[] then = {0, 1, 0, 0, 0, 1};
        for (int cell = 0; cell < 6; cell++) {
            Due.is("25: hole(" + cell + ")", x.hole(cell), then[cell]);
        }
    }

    private static void sixHours() {
        BentPictures x = new BentPictures();
        // A HOLE lights its own CELL of SURFACE 0 at HOURS 0 .. 4; a MIRROR gives both the same at HOUR 5.
        x.surface(0, 2, 10, 0, 0, 2, 1);
        x.surface(0, 2, 8, 0, 0, 2, 1);
        x.surface(1, 0, 2, 0, 6, 8, 8);
        x.plate(1);
        for (int h = 0; h < 5; h++) {
            x.hour(0, 0, 1 + h);
        }
        x.hour(4, 0, 8);
        Due.is("22: lit(4, 0)", x.lit(4, 0), 0);
        Due.is("22: lit(5, 0)", x.lit(5, 0), 1);
        Due.is("22: lit(5, 1)", x.lit(5, 1), 1);
        for (int h = 0; h < 5; h++) {
            x.want(h, 0, 0, true);
            x.want(h, 0, 1, true);
        }
        Due.is("24: not WANTED at HOUR 5", x.fewest(), BentPictures.NONE);
        x.want(5, 0, 1, true);
        Due.is("24: both", x.fewest(), 2);
        x.want(4, 0, 0, false);
        Due.is("24: one MAY not be", x.fewest(), BentPictures.NONE);
        for (int h = 0; h < 4; h++) {
            x.want(h, 0, 0, false);
        }
        Due.is("24: the other does", x.fewest(), 1);
        Due.is("25: the other", x.hole(1), 1);
        Due.is("25: not the one", x.hole(0), 0);
    }

    private static void fewestEdges() {
        BentPictures x = new BentPictures();
        x.surface(0, 0, 20, 0, 0, 8, 2);
        x.surface(0, 0, 22, 0, 0, 6, 3);
        x.surface(0, 0, 30, 0, 0, 8, 2);
        x.plate(0);
        Due.is("24: sixteen", x.fewest(), 0);
        x.plate(1);
        Due.is("24: SPENT", x.fewest(), BentPictures.SPENT);
        Due.is("25: SPENT", x.hole(0), BentPictures.SPENT);
        Due.is("25: CELL ahead", x.hole(18), BentPictures.UNKNOWN);
        x.hour(-9, 0, 0);
        x.want(0, 2, 0, true);
        // 12 HOLES of the PLATE at 22 shine on the one at 20 and may not be; 6 shine by, too few to be SPENT.
        Due.is("24: none lights it", x.fewest(), BentPictures.NONE);
        x.want(0, 2, 0, false);
        Due.is("24: no need", x.fewest(), 0);
        x.plate(0);
        x.hour(1, 0, 0);
        for (int cell = 0; cell < 18; cell++) {
            x.want(1, 1, cell, true);
        }
        // 12 HOLES shine on SURFACE 1, whose third row stays dark; the other four shine on 2 and may not be.
        Due.is("24: not all", x.fewest(), BentPictures.NONE);
        for (int cell = 12; cell < 18; cell++) {
            x.want(1, 1, cell, false);
        }
        for (int cell = 0; cell < 16; cell++) {
            x.want(1, 2, cell, cell % 8 > 5);
        }
        Due.is("24: all sixteen", x.fewest(), 16);
        Due.is("25: the last", x.hole(15), 1);
    }

    private static void fewColours() {
        BentPictures x = new BentPictures();
        Due.is("26: no PICTURES", x.few(9, 0), 1022);
        Due.is("26: no PICTURES", x.few(3, 0), 14);
        Due.is("26: no PICTURES", x.few(3, 1), 0);
        x.board(0, 0, 0, 0, 2, 2);
        x.sheet(0, 2, 4);
        int[] first = {1, 9, 0, 9};
        for (int i = 0; i < 4; i++) {
            x.put(0, i, first[i]);
        }
        x.picture(0, 0, 2, 0);
        x.put(0, 0, 5);
        x.put(0, 2, 5);
        x.picture(3, 0, 2, 0);
        // 1, 9, 9 and 5, 9, 5, 9: by 9 alone 8 + 4 + 4.
        Due.is("26: few(1, 0)", x.few(1, 0), 1 << 9);
        Due.is("26: few(1, 1)", x.few(1, 1), 16);
        Due.is("26: few(2, 0)", x.few(2, 0), 1 << 5 | 1 << 9);
        Due.is("26: few(2, 1)", x.few(2, 1), 4);
        Due.is("26: few(3, 0)", x.few(3, 0), 1 << 1 | 1 << 5 | 1 << 9);
        Due.is("26: few(3, 1)", x.few(3, 1), 0);
        Due.is("26: few(4, 0)", x.few(4, 0), 1 << 1 | 1 << 2 | 1 << 5 | 1 << 9);
        Due.is("26: k", x.few(0, 0), BentPictures.OUTSIDE);
        Due.is("26: k", x.few(10, 0), BentPictures.OUTSIDE);
        Due.is("26: what", x.few(1, 2), BentPictures.OUTSIDE);
        Due.is("26: what", x.few(1, -1), BentPictures.OUTSIDE);
    }
}
