/** Promises 1 to 12: space. */
public final class SpaceTest {
    private static final int LEAST = Integer.MIN_VALUE, MOST = Integer.MAX_VALUE;

    private SpaceTest() {
    }

    public static void main(String[] args) {
        newObject();
        surfaces();
        aboutSurfaces();
        boards();
        eyes();
        pictures();
        paint();
        rayEdges();
        rayNumbering();
        likeTimes();
        throwing();
        faint();
        seen();
        Due.end();
    }

    private static void newObject() {
        BentPictures x = new BentPictures();
        int[] due = {0, 0, 1, 0, 0, 0};
        for (int what = 0; what < 6; what++) {
            Due.is("1: many(" + what + ")", x.many(what), due[what]);
        }
        for (int k = 0; k < 4; k++) {
            Due.is("1: lose(" + k + ")", x.lose(k), 0);
            Due.is("1: wish(" + k + ", 0)", x.wish(k, 0), 0);
        }
        Due.is("1: plate(-1)", x.plate(-1), BentPictures.NONE);
        Due.is("1: trace()", x.trace(), 0);
        Due.is("1: fault()", x.fault(), 0);
        Due.is("1: about(0, 0)", x.about(0, 0), BentPictures.UNKNOWN);
        // THE BOARD lies across 2 at 20 from 0, 0 and the EYES stand at 0, 0, 0: so they look at (1, 1, 40).
        x.surface(0, 2, 40, 0, 0, 1, 1);
        x.surface(0, 2, 20, 0, 0, 1, 1);
        Due.is("1: seen(3, 0)", x.seen(3, 0), 100);
        Due.is("LOST", BentPictures.LOST, Long.MIN_VALUE);
    }

    private static void surfaces() {
        BentPictures x = new BentPictures();
        int[][] outside = {
            {-1, 0, 0, 0, 0, 1, 1}, {3, 0, 0, 0, 0, 1, 1}, {0, -1, 0, 0, 0, 1, 1}, {0, 3, 0, 0, 0, 1, 1},
            {0, 0, -1, 0, 0, 1, 1}, {0, 0, 41, 0, 0, 1, 1}, {0, 0, 0, -1, 0, 1, 1}, {0, 0, 0, 40, 0, 1, 1},
            {0, 0, 0, 0, -1, 1, 1}, {0, 0, 0, 0, 40, 1, 1}, {0, 0, 0, 0, 0, 0, 1}, {0, 0, 0, 0, 0, 9, 1},
            {0, 0, 0, 0, 0, 1, 0}, {0, 0, 0, 0, 0, 1, 9}, {0, 0, 0, 33, 0, 8, 1}, {0, 0, 0, 0, 33, 1, 8},
            {0, 0, 0, MOST, 0, 8, 1}, {0, 0, 0, 0, MOST, 1, 8}, {0, 0, 0, LEAST, 0, 8, 1}, {0, 0, 0, 0, 0, -1, 1},
            {0, 0, 0, 0, 0, MOST, 1}, {0, 0, 0, 0, 0, 1, LEAST}, {MOST, 0, 0, 0, 0, 1, 1}, {0, LEAST, 0, 0, 0, 1, 1},
        };
        for (int round = 0; round < 2; round++) {
            for (int k = 0; k < outside.length; k++) {
                int[] a = outside[k];
                int got = x.surface(a[0], a[1], a[2], a[3], a[4], a[5], a[6]);
                Due.is("2: surface, wrong row " + k, got, BentPictures.OUTSIDE);
            }
            for (int s = 0; s < 10 && round == 0; s++) {
                Due.is("2: surface " + s, x.surface(s % 3, s % 3, 40, 32, 39, 8, 1), s);
            }
        }
        Due.is("2: surface, the eleventh", x.surface(0, 0, 0, 0, 0, 1, 1), BentPictures.FULL);
        Due.is("2: many(0)", x.many(0), 10);
        Due.is("2: many(1)", x.many(1), 80);
    }

    private static void aboutSurfaces() {
        BentPictures x = new BentPictures();
        x.surface(1, 1, 30, 2, 3, 4, 5);
        x.surface(2, 0, 31, 6, 7, 8, 1);
        x.paint(1, 0, 4);
        x.paint(1, 7, 9);
        int[][] due = {{1, 1, 30, 2, 3, 4, 5, 0}, {2, 0, 31, 6, 7, 8, 1, 2}};
        for (int s = 0; s < 2; s++) {
            for (int what = 0; what < 8; what++) {
                Due.is("3: about(" + s + ", " + what + ")", x.about(s, what), due[s][what]);
            }
        }
        Due.is("3: about(0, -1)", x.about(0, -1), BentPictures.OUTSIDE);
        Due.is("3: about(0, 8)", x.about(0, 8), BentPictures.OUTSIDE);
        Due.is("3: about(2, 0)", x.about(2, 0), BentPictures.UNKNOWN);
        Due.is("3: about(2, 9)", x.about(2, 9), BentPictures.UNKNOWN);
        Due.is("3: about(-1, 0)", x.about(-1, 0), BentPictures.UNKNOWN);
        Due.is("3: about(MOST, 0)", x.about(MOST, 0), BentPictures.UNKNOWN);
    }

    private static void boards() {
        BentPictures x = new BentPictures();
        x.sheet(0, 0, 1);
        x.put(0, 0, 5);
        for (int e = 0; e < 4; e++) {
            x.picture(e, 0, 0, 0);
        }
        Due.is("4: board, wrong", x.board(0, 41, 0, 0, 1, 1), BentPictures.OUTSIDE);
        Due.is("4: board, too wide", x.board(0, 40, 33, 0, 8, 1), BentPictures.OUTSIDE);
        Due.is("4: many(2)", x.many(2), 1);
        Due.is("4: wish(2, 0) stays", x.wish(2, 0), 5);
        Due.is("4: board(0, 5, 1, 2, 8, 7)", x.board(0, 5, 1, 2, 8, 7), 56);
        Due.is("4: many(2)", x.many(2), 56);
        for (int e = 0; e < 4; e++) {
            Due.is("4: wish(" + e + ", 0)", x.wish(e, 0), 0);
        }
        Due.is("4: wish(0, 55)", x.wish(0, 55), 0);
        Due.is("4: wish(0, 56)", x.wish(0, 56), BentPictures.UNKNOWN);
        // It lies in nobody's way: the RAY through it goes on.
        x.surface(0, 0, 9, 0, 0, 8, 8);
        Due.is("4: ray", x.ray(0, 3, 4, 1, 0, 0), 35);
    }

    private static void eyes() {
        BentPictures x = new BentPictures();
        Due.is("5: eye(-1, ..)", x.eye(-1, 0, 0, 0), BentPictures.UNKNOWN);
        Due.is("5: eye(4, ..)", x.eye(4, 41, 0, 0), BentPictures.UNKNOWN);
        Due.is("5: eye(0, 41, ..)", x.eye(0, 41, 0, 0), BentPictures.OUTSIDE);
        Due.is("5: eye(0, .., -1, ..)", x.eye(0, 0, -1, 0), BentPictures.OUTSIDE);
        Due.is("5: eye(0, .., LEAST)", x.eye(0, 0, 0, LEAST), BentPictures.OUTSIDE);
        x.surface(0, 2, 19, 0, 0, 8, 8);
        x.surface(0, 2, 30, 0, 0, 8, 8);
        Due.is("5: seen(3, 0) from 0, 0, 0", x.seen(3, 0), 0);
        Due.is("5: eye(3, 40, 40, 40)", x.eye(3, 40, 40, 40), 1);
        // From there THE BOARD's CELL lies at (-79, -79, -40), halved: z 30 is met at a quarter, x 20.
        Due.is("5: seen(3, 0) from 40, 40, 40", x.seen(3, 0), BentPictures.NONE);
        Due.is("5: eye(3, 2, 3, 31)", x.eye(3, 2, 3, 31), 1);
        // By (-3, -5, -22): z 30 at 1/22, x 2 - 3/22, y 3 - 5/22.
        Due.is("5: seen(3, 0) from 2, 3, 31", x.seen(3, 0), 117);
        Due.is("5: seen(2, 0) from 0, 0, 0", x.seen(2, 0), 0);
    }

    private static void pictures() {
        BentPictures x = new BentPictures();
        x.board(1, 3, 0, 0, 2, 2);
        Due.is("6: of nothing", x.picture(0, 0, 2, 0), -11);
        Due.is("6: fault()", x.fault(), 1);
        x.sheet(0, 0, 7);
        int[] colours = {9, 0, 1, 3, 2, 10, -1};
        for (int i = 0; i < 7; i++) {
            x.put(0, i, colours[i]);
        }
        Due.is("6: EYE", x.picture(-1, 0, 3, 0), BentPictures.UNKNOWN);
        Due.is("6: fault()", x.fault(), 0);
        Due.is("6: SHEET", x.picture(0, 4, 0, 0), BentPictures.UNKNOWN);
        Due.is("6: SHEET", x.picture(0, -1, 0, 0), BentPictures.UNKNOWN);
        Due.is("6: lane ahead of the row", x.picture(0, 1, 3, 0), BentPictures.OUTSIDE);
        Due.is("6: lane", x.picture(0, 0, -1, 0), BentPictures.OUTSIDE);
        Due.is("6: CAST ahead of INDEX", x.picture(0, 0, 1, 9), -12);
        Due.is("6: fault()", x.fault(), 2);
        Due.is("6: INDEX below", x.picture(0, 0, 0, -1), -13);
        Due.is("6: INDEX ahead of a COLOUR", x.picture(0, 0, 0, 4), -13);
        Due.is("6: INDEX far above", x.picture(0, 0, 0, MOST), -13);
        Due.is("6: INDEX far below", x.picture(0, 0, 0, LEAST), -13);
        Due.is("6: fault()", x.fault(), 3);
        Due.is("6: COLOUR below", x.picture(0, 0, 0, 3), BentPictures.OUTSIDE);
        Due.is("6: fault()", x.fault(), 0);
        Due.is("6: COLOUR above", x.picture(0, 0, 0, 2), BentPictures.OUTSIDE);
        Due.is("6: picture(0, 0, 0, 0)", x.picture(0, 0, 0, 0), 3);
        Due.is("6: picture(1, 0, 0, 1)", x.picture(1, 0, 0, 1), 3);
        Due.is("6: a COLOUR is wrong: nothing changes", x.picture(0, 0, 0, 2), BentPictures.OUTSIDE);
        x.put(0, 0, -1);
        Due.is("6: the first COLOUR is wrong", x.picture(0, 0, 0, 0), BentPictures.OUTSIDE);
        x.put(0, 0, 8);
        int[] due = {9, 0, 1, 3};
        for (int cell = 0; cell < 4; cell++) {
            Due.is("7: wish(0, " + cell + ")", x.wish(0, cell), due[cell]);
        }
        Due.is("7: wish(1, 3)", x.wish(1, 3), 2);
        Due.is("7: wish(0, 4)", x.wish(0, 4), BentPictures.UNKNOWN);
        Due.is("7: wish(0, -1)", x.wish(0, -1), BentPictures.UNKNOWN);
        Due.is("7: wish(4, 0)", x.wish(4, 0), BentPictures.UNKNOWN);
        Due.is("7: wish(-1, 0)", x.wish(-1, 0), BentPictures.UNKNOWN);
    }

    private static void paint() {
        BentPictures x = new BentPictures();
        x.surface(0, 0, 5, 0, 0, 3, 2);
        x.surface(1, 0, 6, 0, 0, 3, 2);
        x.surface(2, 0, 7, 0, 0, 3, 2);
        Due.is("8: paint(0, 5, 9)", x.paint(0, 5, 9), 0);
        Due.is("8: paint(0, 5, 1)", x.paint(0, 5, 1), 9);
        Due.is("8: paint(2, 0, 3)", x.paint(2, 0, 3), 0);
        Due.is("8: a MIRROR takes none", x.paint(1, 0, 3), BentPictures.STATE);
        Due.is("8: not even bare", x.paint(1, 0, 0), BentPictures.STATE);
        Due.is("8: COLOUR ahead of STATE", x.paint(1, 0, 10), BentPictures.OUTSIDE);
        Due.is("8: COLOUR", x.paint(0, 0, -1), BentPictures.OUTSIDE);
        Due.is("8: CELL ahead of COLOUR", x.paint(0, 6, 10), BentPictures.UNKNOWN);
        Due.is("8: CELL", x.paint(0, -1, 1), BentPictures.UNKNOWN);
        Due.is("8: SURFACE", x.paint(3, 0, 1), BentPictures.UNKNOWN);
        Due.is("8: SURFACE", x.paint(-1, 0, 1), BentPictures.UNKNOWN);
        Due.is("9: colour(0, 5)", x.colour(0, 5), 1);
        Due.is("9: colour(0, 4)", x.colour(0, 4), 0);
        Due.is("9: colour(1, 0)", x.colour(1, 0), 0);
        Due.is("9: colour(2, 0)", x.colour(2, 0), 3);
        Due.is("9: colour(0, 6)", x.colour(0, 6), BentPictures.UNKNOWN);
        Due.is("9: colour(0, -1)", x.colour(0, -1), BentPictures.UNKNOWN);
        Due.is("9: colour(3, 0)", x.colour(3, 0), BentPictures.UNKNOWN);
        Due.is("9: colour(-1, 0)", x.colour(-1, 0), BentPictures.UNKNOWN);
        Due.is("8: paint(0, 5, 0)", x.paint(0, 5, 0), 1);
        Due.is("8: many(4)", x.many(4), 1);
    }

    private static void rayEdges() {
        BentPictures x = new BentPictures();
        x.surface(0, 0, 10, 2, 3, 4, 5);
        int[][] outside = {
            {-1, 0, 0, 1, 0, 0}, {41, 0, 0, 1, 0, 0}, {0, -1, 0, 1, 0, 0}, {0, 41, 0, 1, 0, 0}, {0, 0, -1, 1, 0, 0},
            {0, 0, 41, 1, 0, 0}, {0, 0, 0, 0, 0, 0}, {0, 0, 0, 100, 0, 0}, {0, 0, 0, -100, 0, 0}, {0, 0, 0, 0, 100, 0},
            {0, 0, 0, 0, -100, 0}, {0, 0, 0, 0, 0, 100}, {0, 0, 0, 0, 0, -100}, {0, 0, 0, LEAST, 0, 0},
            {0, 0, 0, 1, MOST, 0}, {LEAST, 0, 0, 1, 0, 0}, {0, 0, MOST, 1, 0, 0},
        };
        for (int k = 0; k < outside.length; k++) {
            int[] a = outside[k];
            Due.is("10: ray, wrong row " + k, x.ray(a[0], a[1], a[2], a[3], a[4], a[5]), BentPictures.OUTSIDE);
            Due.is("11: bounces, wrong row " + k, x.bounces(a[0], a[1], a[2], a[3], a[4], a[5]), BentPictures.OUTSIDE);
        }
        // The near edges belong to the FLAT, the far ones do not.
        Due.is("10: near corner", x.ray(0, 2, 3, 1, 0, 0), 0);
        Due.is("10: far edge along y", x.ray(0, 6, 3, 1, 0, 0), BentPictures.NONE);
        Due.is("10: far edge along z", x.ray(0, 2, 8, 1, 0, 0), BentPictures.NONE);
        Due.is("10: just within", x.ray(0, 6, 8, 99, -1, -1), 19);
        Due.is("10: just ahead of y", x.ray(0, 2, 3, 99, -1, 0), BentPictures.NONE);
        Due.is("10: from the other side", x.ray(40, 5, 7, -99, 0, 0), 19);
        Due.is("10: away from it", x.ray(0, 2, 3, -1, 0, 0), BentPictures.NONE);
        Due.is("10: from the FLAT itself", x.ray(10, 3, 4, 1, 0, 0), BentPictures.NONE);
        Due.is("10: along the FLAT", x.ray(10, 0, 4, 0, 1, 0), BentPictures.NONE);
        Due.is("10: a line between CELLS", x.ray(0, 0, 0, 10, 4, 5), 10);
    }

    private static void rayNumbering() {
        // CELLS run first along the first other AXIS, in the order x, y, z.
        int[][] sides = {{1, 2}, {0, 2}, {0, 1}};
        for (int axis = 0; axis < 3; axis++) {
            BentPictures x = new BentPictures();
            x.surface(0, axis, 20, 0, 0, 1, 1);
            x.surface(0, axis, 30, 4, 6, 3, 2);
            for (int cell = 0; cell < 6; cell++) {
                int[] place = new int[3];
                int[] way = new int[3];
                place[axis] = 1;
                way[axis] = 1;
                place[sides[axis][0]] = 4 + cell % 3;
                place[sides[axis][1]] = 6 + cell / 3;
                int got = x.ray(place[0], place[1], place[2], way[0], way[1], way[2]);
                Due.is("10: axis " + axis + ", CELL " + cell, got, 100 + cell);
            }
        }
    }

    private static void likeTimes() {
        BentPictures x = new BentPictures();
        // Three SURFACES meet at (10, 10, 10): of like t the least number.
        x.surface(0, 1, 10, 8, 8, 4, 4);
        x.surface(0, 0, 10, 8, 8, 4, 4);
        x.surface(0, 2, 10, 8, 8, 4, 4);
        Due.is("10: of like t", x.ray(0, 0, 0, 1, 1, 1), 10);
        Due.is("10: of unlike t", x.ray(0, 0, 0, 10, 9, 9), 105);
        BentPictures y = new BentPictures();
        // A MIRROR throws back in the corner; the WALL of like t there is not come to afterwards.
        y.surface(1, 1, 10, 8, 8, 4, 4);
        y.surface(0, 0, 10, 8, 8, 4, 4);
        y.surface(0, 0, 12, 4, 8, 8, 8);
        Due.is("10: thrown back in a corner", y.ray(0, 0, 9, 1, 1, 0), 212);
        Due.is("11: thrown back in a corner", y.bounces(0, 0, 9, 1, 1, 0), 1);
        BentPictures z = new BentPictures();
        // With two MIRRORS of like t the other AXIS is not turned.
        z.surface(1, 1, 10, 8, 8, 4, 4);
        z.surface(1, 0, 10, 8, 8, 4, 4);
        z.surface(0, 0, 12, 4, 8, 8, 8);
        Due.is("10: two MIRRORS at once", z.ray(0, 0, 9, 1, 1, 0), 212);
        Due.is("11: two MIRRORS at once", z.bounces(0, 0, 9, 1, 1, 0), 1);
    }

    private static void throwing() {
        // Between MIRRORS at x 4 and x 8 a RAY from (6, 1, 0) goes up to a WALL or to nothing.
        BentPictures x = new BentPictures();
        x.surface(1, 0, 4, 0, 0, 8, 8);
        x.surface(1, 0, 8, 0, 0, 8, 8);
        Due.is("11: bounces, once", x.bounces(6, 1, 0, 2, 0, 5), 1);
        Due.is("11: bounces, twice", x.bounces(6, 1, 0, 2, 0, 2), 2);
        Due.is("11: bounces, three times and out", x.bounces(6, 1, 0, 2, 0, 1), 3);
        Due.is("10: three times and out", x.ray(6, 1, 0, 5, 0, 4), BentPictures.NONE);
        x.surface(0, 2, 5, 4, 0, 4, 4);
        Due.is("10: three times and a WALL", x.ray(6, 1, 0, 5, 0, 2), 205);
        Due.is("11: three times and a WALL", x.bounces(6, 1, 0, 5, 0, 2), 3);
        Due.is("10: LOST", x.ray(6, 1, 0, 7, 0, 2), BentPictures.NONE);
        Due.is("11: LOST", x.bounces(6, 1, 0, 7, 0, 2), 3);
        Due.is("11: straight", x.bounces(6, 1, 0, 0, 0, 1), 0);
    }

    private static void faint() {
        BentPictures x = new BentPictures();
        x.surface(2, 2, 10, 0, 0, 8, 8);
        x.surface(0, 2, 0, 0, 0, 8, 8);
        Due.is("10: a bare FAINT one throws back", x.ray(3, 3, 1, 0, 0, 1), 127);
        Due.is("11: a bare FAINT one throws back", x.bounces(3, 3, 1, 0, 0, 1), 1);
        x.paint(0, 27, 6);
        Due.is("10: a painted CELL does not", x.ray(3, 3, 1, 0, 0, 1), 27);
        Due.is("11: a painted CELL does not", x.bounces(3, 3, 1, 0, 0, 1), 0);
        Due.is("10: the CELL beside it does", x.ray(4, 3, 1, 0, 0, 1), 128);
    }

    private static void seen() {
        BentPictures x = new BentPictures();
        x.surface(0, 0, 30, 0, 0, 8, 8);
        x.board(0, 10, 2, 2, 2, 3);
        x.eye(1, 0, 3, 3);
        // The WALL is three times as far as THE BOARD: half a CELL to the side becomes one and a half.
        int[] due = {9, 12, 33, 36, 57, 60};
        for (int cell = 0; cell < 6; cell++) {
            Due.is("12: seen(1, " + cell + ")", x.seen(1, cell), due[cell]);
        }
        x.eye(1, 10, 0, 0);
        Due.is("12: in THE BOARD's plane", x.seen(1, 0), BentPictures.NONE);
        Due.is("12: CELL", x.seen(1, 6), BentPictures.UNKNOWN);
        Due.is("12: CELL", x.seen(1, -1), BentPictures.UNKNOWN);
        Due.is("12: EYE", x.seen(4, 0), BentPictures.UNKNOWN);
        Due.is("12: EYE", x.seen(-1, 0), BentPictures.UNKNOWN);
    }
}
