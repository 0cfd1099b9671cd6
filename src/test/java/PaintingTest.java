/** Promises 13 to 17: painting. */
public final class PaintingTest {
    private PaintingTest() {
    }

    public static void main(String[] args) {
        votes();
        fates();
        faintAndMirrors();
        idle();
        swayAtTheEdge();
        swayWorst();
        swayOfSeveral();
        Due.end();
    }

    /** The EYE's PICTURE has these COLOURS. */
    private static void show(BentPictures x, int e, int... colours) {
        x.sheet(3, 2, colours.length);
        for (int i = 0; i < colours.length; i++) {
            x.put(3, i, colours[i]);
        }
        x.picture(e, 3, 2, 0);
    }

    /** Four EYES at one place, a BOARD of two CELLS; SEEN are the WALL's CELLS 0 and 1. */
    private static BentPictures fourEyes() {
        BentPictures x = new BentPictures();
        x.surface(0, 2, 10, 4, 4, 8, 8);
        x.board(2, 10, 4, 4, 2, 1);
        for (int e = 0; e < 4; e++) {
            x.eye(e, 4, 4, 0);
        }
        return x;
    }

    private static void votes() {
        BentPictures x = fourEyes();
        show(x, 0, 5, 1);
        show(x, 1, 3, 0);
        show(x, 2, 5, 9);
        show(x, 3, 3, 9);
        Due.is("14: painting(15)", x.painting(15), 2);
        Due.is("14: of several the least", x.colour(0, 0), 3);
        Due.is("14: the most", x.colour(0, 1), 9);
        Due.is("13: how many", x.wishes(15, 0), 7);
        Due.is("13: MET", x.wishes(15, 1), 4);
        Due.is("13: BLIND", x.wishes(15, 2), 0);
        Due.is("13: MISSED", x.wishes(15, 3), 3);
        Due.is("13: MET of EYE 3", x.wishes(8, 1), 2);
        Due.is("13: of no EYE", x.wishes(0, 0), 0);
        Due.is("14: painting(7)", x.painting(7), 2);
        Due.is("14: the most of three", x.colour(0, 0), 5);
        Due.is("14: of several the least", x.colour(0, 1), 1);
        Due.is("14: painting(2)", x.painting(2), 1);
        Due.is("14: of one", x.colour(0, 0), 3);
        Due.is("14: bare again", x.colour(0, 1), 0);
        Due.is("14: OUTSIDE", x.painting(16), BentPictures.OUTSIDE);
        Due.is("14: OUTSIDE", x.painting(-1), BentPictures.OUTSIDE);
        Due.is("14: OUTSIDE changes nothing", x.many(4), 1);
        Due.is("14: for none all become bare", x.painting(0), 0);
        Due.is("14: many(4)", x.many(4), 0);
    }

    private static void fates() {
        BentPictures x = fourEyes();
        x.board(2, 5, 3, 4, 3, 1);
        show(x, 0, 1, 2, 3);
        // From (4, 4, 0) by twice as far: x 3, 5, 7: CELL 0 of THE BOARD is beside the WALL.
        Due.is("12: seen(0, 0)", x.seen(0, 0), BentPictures.NONE);
        Due.is("12: seen(0, 1)", x.seen(0, 1), 9);
        Due.is("12: seen(0, 2)", x.seen(0, 2), 11);
        x.paint(0, 11, 3);
        x.paint(0, 9, 1);
        Due.is("13: how many", x.wishes(1, 0), 3);
        Due.is("13: MET", x.wishes(1, 1), 1);
        Due.is("13: BLIND", x.wishes(1, 2), 1);
        Due.is("13: MISSED", x.wishes(1, 3), 1);
        Due.is("13: a bare CELL is MISSED", x.paint(0, 9, 0), 1);
        Due.is("13: MISSED", x.wishes(1, 3), 1);
        Due.is("13: what", x.wishes(1, 4), BentPictures.OUTSIDE);
        Due.is("13: what", x.wishes(1, -1), BentPictures.OUTSIDE);
        Due.is("13: set", x.wishes(16, 0), BentPictures.OUTSIDE);
        Due.is("13: set", x.wishes(-1, 0), BentPictures.OUTSIDE);
        Due.is("15: wash()", x.wash(), 1);
        Due.is("15: wash()", x.wash(), 0);
        Due.is("15: colour(0, 11)", x.colour(0, 11), 0);
    }

    private static void faintAndMirrors() {
        BentPictures x = fourEyes();
        x.surface(2, 2, 6, 0, 0, 8, 8);
        x.surface(0, 2, 0, 0, 0, 8, 8);
        show(x, 0, 7, 8);
        x.paint(1, 36, 7);
        x.paint(1, 37, 4);
        // The EYE stands in the WALL behind at z 0; FAINT CELLS at z 6 that are bare throw back to it.
        Due.is("12: a painted FAINT CELL", x.seen(0, 0), 136);
        Due.is("13: MET by a FAINT CELL", x.wishes(1, 1), 1);
        Due.is("14: painting(1)", x.painting(1), 2);
        Due.is("14: a FAINT CELL becomes bare", x.colour(1, 36), 0);
        Due.is("12: behind the EYE", x.seen(0, 0), 236);
        Due.is("14: behind the EYE", x.colour(2, 36), 7);
        // By (3, 1, 20) to z 6 and back: x 4 + 36/20.
        Due.is("12: behind the EYE", x.seen(0, 1), 237);
        Due.is("14: behind the EYE", x.colour(2, 37), 8);
        Due.is("13: MET", x.wishes(1, 1), 2);
        x.paint(1, 36, 1);
        Due.is("15: wash()", x.wash(), 3);
        Due.is("15: FAINT ones too", x.colour(1, 36), 0);
    }

    private static void idle() {
        BentPictures x = fourEyes();
        x.surface(1, 0, 40, 0, 0, 8, 8);
        x.surface(2, 0, 39, 0, 0, 2, 3);
        show(x, 0, 1, 2);
        show(x, 1, 1, 0);
        show(x, 2, 0, 0);
        Due.is("16: two SEEN", x.idle(1), 68);
        Due.is("16: one SEEN twice", x.idle(3), 68);
        Due.is("16: one SEEN", x.idle(2), 69);
        Due.is("16: a PICTURE all bare", x.idle(4), 70);
        Due.is("16: no EYE", x.idle(0), 70);
        Due.is("16: OUTSIDE", x.idle(16), BentPictures.OUTSIDE);
        Due.is("16: OUTSIDE", x.idle(-1), BentPictures.OUTSIDE);
        // It goes by what is SEEN now: a painted FAINT CELL in the way is SEEN.
        x.surface(2, 2, 8, 4, 4, 1, 1);
        Due.is("16: thrown back", x.idle(2), 71);
        x.paint(3, 0, 5);
        Due.is("16: painted", x.idle(2), 70);
    }

    private static void swayAtTheEdge() {
        BentPictures x = new BentPictures();
        for (int e = 0; e < 2; e++) {
            int[] places = {0, 0, 0, 31, 31, 31};
            x.eye(e, 40 * e, 40 * e, 40 * e);
            for (int what = 1; what < 4; what++) {
                Due.is("17: no WISHES, the first place", x.sway(e, 9, what), places[3 * e + what - 1]);
            }
            Due.is("17: no WISHES", x.sway(e, 9, 0), 0);
        }
        Due.is("17: EYE ahead", x.sway(4, 0, 4), BentPictures.UNKNOWN);
        Due.is("17: EYE", x.sway(-1, 1, 0), BentPictures.UNKNOWN);
        Due.is("17: d", x.sway(0, 0, 0), BentPictures.OUTSIDE);
        Due.is("17: d", x.sway(0, 10, 0), BentPictures.OUTSIDE);
        Due.is("17: d", x.sway(0, Integer.MIN_VALUE, 0), BentPictures.OUTSIDE);
        Due.is("17: what", x.sway(0, 1, 4), BentPictures.OUTSIDE);
        Due.is("17: what", x.sway(0, 1, -1), BentPictures.OUTSIDE);
    }

    private static void swayWorst() {
        BentPictures x = new BentPictures();
        x.surface(0, 2, 20, 2, 2, 8, 8);
        for (int cell = 0; cell < 64; cell++) {
            x.paint(0, cell, 1);
        }
        x.board(2, 10, 5, 5, 1, 1);
        x.eye(0, 5, 5, 0);
        show(x, 0, 1);
        int[] first = {0, 4, 4, 0};
        for (int what = 0; what < 4; what++) {
            Due.is("17: none is worse", x.sway(0, 1, what), first[what]);
        }
        // CELL (3, 4), from x 5, y 6 on, is SEEN from (6, 5, 0) alone.
        x.paint(0, 35, 2);
        int[] due = {1, 6, 5, 0};
        for (int what = 0; what < 4; what++) {
            Due.is("17: sway(0, 1, " + what + ")", x.sway(0, 1, what), due[what]);
        }
        Due.is("17: the EYE stays", x.seen(0, 0), 36);
    }

    private static void swayOfSeveral() {
        BentPictures x = new BentPictures();
        x.board(2, 10, 5, 5, 2, 1);
        x.eye(2, 20, 20, 20);
        show(x, 2, 1, 1);
        // Nothing is SEEN from anywhere: all places are alike, and the first has x, y, z less.
        int[] due = {2, 17, 17, 17};
        for (int what = 0; what < 4; what++) {
            Due.is("17: BLIND is not MET", x.sway(2, 3, what), due[what]);
        }
    }
}
