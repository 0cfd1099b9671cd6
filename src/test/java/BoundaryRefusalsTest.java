import java.util.ArrayList;
import java.util.List;

/**
 * What the document says of all refusals and FAULTS: they change nothing (but fault(), of a call that names FAULTS).
 * Two runs do the same, but that one of them is refused something; then all that can be asked is answered alike.
 */
public final class BoundaryRefusalsTest {
    private static final int UNKNOWN = BentPictures.UNKNOWN, OUTSIDE = BentPictures.OUTSIDE,
        STATE = BentPictures.STATE, FULL = BentPictures.FULL, SPENT = BentPictures.SPENT;
    private static final long LOST = BentPictures.LOST;
    private static final String REFUSED = "they change nothing (but fault(), of a call that names FAULTS)";
    private static final String FAILED = "it answers -10 less it (LOST, where a long is answered, as for refusals) "
        + "and changes nothing; fault() tells it";
    /** The FAULT ahead of what is refused, and after it if it names no FAULTS. */
    private static final int BEFORE = 3;

    private static final int FURNISHED = 0, FILLED = 1, PLATELESS = 2, CROWDED = 3;

    private BoundaryRefusalsTest() {
    }

    public static void main(String[] args) {
        all();
        // wash(), trace() and fault() refuse nothing.
        Sentence.end(2, 36, 15, 34, 35);
    }

    static void all() {
        space();
        painting();
        light();
        parts();
        faults();
        full();
        wholeOrNothing();
        firstRefusal();
        firstFault();
        changesAreSeen();
    }

    /** Something of everything, so that each change of anything is seen in what is asked afterwards. */
    private static Run furnished(Run x, int how) {
        x.does("surface", 0, 2, 5, 10, 10, 2, 2).does("surface", 0, 2, 15, 10, 10, 2, 2);
        x.does("surface", 1, 0, 30, 0, 0, 1, 1).does("surface", 2, 0, 31, 0, 0, 2, 1).does("surface", 0, 0, 32, 0, 0, 6, 3);
        x.does("paint", 0, 0, 4).does("paint", 1, 3, 5).does("paint", 3, 1, 6).does("paint", 4, 17, 7);
        x.does("hour", 0, 0, 1).does("hour", 1, 0, 0).does("want", 0, 1, 0, 1).does("want", 0, 1, 3, 1);
        x.does("board", 2, 15, 10, 10, 2, 2);
        for (int e = 0; e < 4; e++) {
            x.does("eye", e, 10 + e, 11 + e, 1 + e).show(e, e, 5, 0, 5);
        }
        x.row(0, 1, 10, 0, 1, 2, 3, 4).rowOf(0, 1, 3, 4).rowOf(1, 2, 5).does("lose", 3);
        x.does("tell", 3).does("name", 0);
        if (how == FILLED) {
            fill(x);
        }
        if (how != PLATELESS) {
            x.does("plate", how == CROWDED ? 4 : 0);
        }
        return x.due(-13, "put", 0, 9, 0);
    }

    private static void fill(Run x) {
        for (int s = 5; s < 10; s++) {
            x.does("surface", s % 3, 0, s, 0, 0, 1, 1);
        }
        for (int h = 2; h < 6; h++) {
            x.does("hour", 0, h, 0);
        }
    }

    /** All that can be asked, in an order in which what is asked first tells the most; it may change what comes later. */
    private static List<Long> everything(Run x) {
        List<Long> all = new ArrayList<>();
        all.add(x.ask("fault"));
        all.add(x.ask("trace"));
        for (int what = 0; what < 6; what++) {
            all.add(x.ask("many", what));
        }
        for (int s = 0; s < 10; s++) {
            for (int what = 0; what < 8; what++) {
                all.add(x.ask("about", s, what));
            }
        }
        for (int cell = 0; cell < 4; cell++) {
            for (int e = 0; e < 4; e++) {
                all.add(x.ask("wish", e, cell));
                all.add(x.ask("seen", e, cell));
            }
            for (int s = 0; s < 5; s++) {
                all.add(x.ask("colour", s, cell));
            }
            all.add(x.ask("lit", 0, cell));
            all.add(x.ask("lit", 1, cell));
            all.add(x.ask("hole", cell));
        }
        all.add(x.ask("colour", 4, 17));
        all.add(x.ask("lit", 2, 0));
        eyesAndSheets(x, all);
        all.add(x.ask("plate", -1));
        wants(x, all);
        return all;
    }

    private static void eyesAndSheets(Run x, List<Long> all) {
        for (int k = 0; k < 4; k++) {
            for (int what = 0; what < 4; what++) {
                all.add(x.ask("sway", k, 1, what));
            }
            for (int i = 0; i < 8; i++) {
                for (int lane = 0; lane < 3; lane++) {
                    all.add(x.ask("at", k, i, lane));
                }
            }
            all.add(x.ask("fault"));
        }
    }

    private static void wants(Run x, List<Long> all) {
        for (int hour = 0; hour < 2; hour++) {
            for (int s = 0; s < 5; s++) {
                for (int cell = 0; cell < 4; cell++) {
                    all.add(x.ask("want", hour, s, cell, 1));
                }
            }
        }
    }

    /** What the call answers, and what fault() tells then. */
    private static void unchanged(int promise, int how, long due, int fault, String name, int... numbers) {
        Sentence.holds(promise, fault > 0 && fault != BEFORE || due <= -11 ? FAILED : REFUSED, x -> {
            Run twin = x.another();
            furnished(x, how).due(due, name, numbers).due(fault, "fault");
            furnished(twin, how).due(BEFORE, "fault");
            List<Long> got = everything(x);
            List<Long> is = everything(twin);
            // The first of all is fault(), which is told already.
            for (int k = 1; k < got.size(); k++) {
                if (!got.get(k).equals(is.get(k))) {
                    x.wrong().add(Calls.text(name, numbers) + " changed what is asked as number " + k);
                }
            }
        });
    }

    /** Refused, by a call that names no FAULTS. */
    private static void refused(int promise, long due, String name, int... numbers) {
        unchanged(promise, FURNISHED, due, BEFORE, name, numbers);
    }

    /** Refused, by a call that names FAULTS. */
    private static void cleared(int promise, long due, String name, int... numbers) {
        unchanged(promise, FURNISHED, due, 0, name, numbers);
    }

    private static void failed(int promise, int fault, String name, int... numbers) {
        unchanged(promise, FURNISHED, name.equals("at") ? LOST : -10 - fault, fault, name, numbers);
    }

    private static void space() {
        refused(2, OUTSIDE, "surface", 3, 0, 0, 0, 0, 1, 1);
        refused(2, OUTSIDE, "surface", 0, 3, 0, 0, 0, 1, 1);
        refused(2, OUTSIDE, "surface", 0, 0, 41, 0, 0, 1, 1);
        refused(2, OUTSIDE, "surface", 0, 0, 0, 40, 0, 1, 1);
        refused(2, OUTSIDE, "surface", 0, 0, 0, 0, 40, 1, 1);
        refused(2, OUTSIDE, "surface", 0, 0, 0, 0, 0, 9, 1);
        refused(2, OUTSIDE, "surface", 0, 0, 0, 0, 0, 1, 9);
        refused(3, UNKNOWN, "about", 5, 0);
        refused(3, OUTSIDE, "about", 0, 8);
        refused(4, OUTSIDE, "board", 3, 0, 0, 0, 1, 1);
        refused(4, OUTSIDE, "board", 0, 41, 0, 0, 1, 1);
        refused(4, OUTSIDE, "board", 0, 0, 40, 0, 1, 1);
        refused(4, OUTSIDE, "board", 0, 0, 0, 0, 1, 9);
        refused(5, UNKNOWN, "eye", 4, 0, 0, 0);
        refused(5, OUTSIDE, "eye", 0, 41, 0, 0);
        refused(5, OUTSIDE, "eye", 0, 0, 41, 0);
        refused(5, OUTSIDE, "eye", 0, 0, 0, 41);
        cleared(6, UNKNOWN, "picture", 4, 0, 2, 2);
        cleared(6, UNKNOWN, "picture", 0, 4, 2, 2);
        cleared(6, OUTSIDE, "picture", 0, 0, 3, 2);
        cleared(6, OUTSIDE, "picture", 0, 0, 2, 0);
        refused(7, UNKNOWN, "wish", 0, 4);
        refused(8, UNKNOWN, "paint", 0, 4, 9);
        refused(8, UNKNOWN, "paint", 5, 0, 9);
        refused(8, OUTSIDE, "paint", 0, 0, 10);
        refused(8, STATE, "paint", 2, 0, 9);
        refused(9, UNKNOWN, "colour", 0, 4);
        refused(10, OUTSIDE, "ray", 0, 0, 0, 0, 0, 0);
        refused(11, OUTSIDE, "bounces", 0, 0, 0, 0, 0, 0);
        refused(12, UNKNOWN, "seen", 0, 4);
    }

    private static void painting() {
        refused(13, OUTSIDE, "wishes", 16, 0);
        refused(14, OUTSIDE, "painting", 16);
        refused(14, OUTSIDE, "painting", -1);
        refused(16, OUTSIDE, "idle", 16);
        refused(17, UNKNOWN, "sway", 4, 1, 0);
        refused(17, OUTSIDE, "sway", 0, 10, 0);
        refused(17, OUTSIDE, "sway", 0, 1, 4);
    }

    private static void light() {
        refused(18, OUTSIDE, "hour", 0, 0, 0);
        refused(18, OUTSIDE, "hour", 0, 10, 0);
        refused(19, UNKNOWN, "plate", 5);
        refused(19, UNKNOWN, "plate", -2);
        refused(20, UNKNOWN, "want", 2, 0, 0, 1);
        refused(20, UNKNOWN, "want", 0, 5, 0, 1);
        refused(20, UNKNOWN, "want", 0, 0, 4, 1);
        cleared(21, UNKNOWN, "wanted", 2, 0, 2, 2, 1);
        cleared(21, UNKNOWN, "wanted", 0, 4, 2, 2, 1);
        cleared(21, OUTSIDE, "wanted", 0, 0, 3, 2, 1);
        refused(22, UNKNOWN, "lit", 2, 0);
        refused(22, UNKNOWN, "lit", 0, 4);
        unchanged(22, PLATELESS, STATE, BEFORE, "lit", 0, 0);
        refused(23, UNKNOWN, "may", 4);
        unchanged(23, PLATELESS, STATE, BEFORE, "may", 0);
        unchanged(24, PLATELESS, STATE, BEFORE, "fewest");
        unchanged(24, CROWDED, SPENT, BEFORE, "fewest");
        refused(25, UNKNOWN, "hole", 4);
        unchanged(25, PLATELESS, STATE, BEFORE, "hole", 0);
        unchanged(25, CROWDED, SPENT, BEFORE, "hole", 0);
        refused(26, OUTSIDE, "few", 0, 0);
        refused(26, OUTSIDE, "few", 1, 2);
    }

    private static void parts() {
        cleared(27, UNKNOWN, "sheet", 4, 0, 1);
        cleared(27, OUTSIDE, "sheet", 0, 3, 1);
        cleared(27, OUTSIDE, "sheet", 0, 0, 65);
        refused(28, UNKNOWN, "lose", 4);
        cleared(29, UNKNOWN, "put", 4, 0, 9);
        cleared(30, LOST, "at", 4, 0, 0);
        cleared(30, LOST, "at", 0, 0, 3);
        refused(31, UNKNOWN, "tell", 5);
        refused(32, UNKNOWN, "name", 5);
        cleared(33, UNKNOWN, "as", 5, 0);
        cleared(33, OUTSIDE, "as", 0, 3);
        refused(36, OUTSIDE, "many", 6);
    }

    private static void faults() {
        failed(6, 1, "picture", 0, 3, 2, 0);
        failed(6, 2, "picture", 0, 0, 1, 0);
        failed(6, 3, "picture", 0, 0, 2, 4);
        failed(21, 1, "wanted", 0, 3, 2, 0, 1);
        failed(21, 2, "wanted", 0, 0, 0, 0, 1);
        failed(21, 3, "wanted", 0, 0, 2, 2, 3);
        failed(21, 4, "wanted", 0, 0, 2, 2, -1);
        failed(27, 4, "sheet", 0, 0, -1);
        failed(27, 4, "sheet", 3, 0, -1);
        failed(29, 1, "put", 3, 0, 9);
        failed(29, 3, "put", 0, 7, 9);
        failed(29, 3, "put", 0, -1, 9);
        failed(30, 1, "at", 3, 0, 0);
        failed(30, 2, "at", 0, 0, 0);
        failed(30, 3, "at", 0, 7, 2);
        failed(33, 2, "as", 0, 1);
        failed(33, 2, "as", 2, 2);
    }

    private static void full() {
        unchanged(2, FILLED, FULL, BEFORE, "surface", 0, 0, 0, 0, 0, 1, 1);
        unchanged(18, FILLED, FULL, BEFORE, "hour", 1, 0, 0);
    }

    /** What is taken cell by cell is taken whole or not at all: the first cells are right, a later one is wrong. */
    private static void wholeOrNothing() {
        // SHEET 0 has 1, 10, 0, 1, 2, 3, 4: 10 is no COLOUR, SURFACE 1 has no CELL 10, SURFACE 2 no CELL 3.
        cleared(6, OUTSIDE, "picture", 1, 0, 2, 1);
        cleared(21, UNKNOWN, "wanted", 0, 0, 2, 0, 1);
        cleared(21, UNKNOWN, "wanted", 0, 0, 2, 2, 2);
        cleared(21, UNKNOWN, "wanted", 1, 0, 2, 0, 3);
    }

    /** Two reasons at once: the first of the document's order is told. */
    private static void first(int promise, int how, long due, String name, int... numbers) {
        Sentence.holds(promise, "REFUSALS, the first of these that fits", x -> furnished(x, how).due(due, name, numbers));
    }

    private static void firstRefusal() {
        first(2, FILLED, OUTSIDE, "surface", 0, 0, 0, 0, 0, 1, 9);
        first(2, FILLED, OUTSIDE, "surface", -1, 0, 0, 0, 0, 1, 1);
        first(3, FURNISHED, UNKNOWN, "about", 5, 8);
        first(5, FURNISHED, UNKNOWN, "eye", 4, 0, 0, 41);
        first(6, FURNISHED, UNKNOWN, "picture", 4, 3, 3, -1);
        first(6, FURNISHED, UNKNOWN, "picture", 0, 4, 3, -1);
        first(6, FURNISHED, OUTSIDE, "picture", 0, 3, 3, -1);
        first(8, FURNISHED, UNKNOWN, "paint", 2, 1, 10);
        first(8, FURNISHED, UNKNOWN, "paint", 2, 1, 1);
        first(8, FURNISHED, OUTSIDE, "paint", 2, 0, 10);
        first(17, FURNISHED, UNKNOWN, "sway", 4, 0, 0);
        first(17, FURNISHED, UNKNOWN, "sway", -1, 1, 4);
        first(18, FILLED, OUTSIDE, "hour", 0, 0, 0);
        first(18, FILLED, OUTSIDE, "hour", 1, 1, 10);
        first(21, FURNISHED, UNKNOWN, "wanted", 2, 3, 3, -1, -1);
        first(21, FURNISHED, UNKNOWN, "wanted", 0, 4, 3, -1, -1);
        first(21, FURNISHED, OUTSIDE, "wanted", 0, 3, 3, -1, -1);
        first(22, PLATELESS, STATE, "lit", 2, 0);
        first(22, PLATELESS, STATE, "lit", 0, 64);
        first(23, PLATELESS, STATE, "may", 64);
        first(25, PLATELESS, STATE, "hole", 64);
        first(25, CROWDED, UNKNOWN, "hole", 18);
        first(25, CROWDED, UNKNOWN, "hole", -1);
        first(27, FURNISHED, UNKNOWN, "sheet", 4, 3, -1);
        first(27, FURNISHED, OUTSIDE, "sheet", 0, 3, -1);
        first(29, FURNISHED, UNKNOWN, "put", 4, -1, 0);
        first(33, FURNISHED, UNKNOWN, "as", 5, 3);
    }

    /** Two FAULTS at once: the first that is come to is told. */
    private static void firstOf(int promise, int fault, String name, int... numbers) {
        Sentence.holds(promise, "Of a call the first that is come to, in the order told", x -> {
            furnished(x, FURNISHED).due(name.equals("at") ? LOST : -10 - fault, name, numbers).due(fault, "fault");
        });
    }

    private static void firstFault() {
        firstOf(6, 1, "picture", 0, 3, 0, -1);
        firstOf(6, 2, "picture", 0, 0, 0, -1);
        firstOf(6, 3, "picture", 0, 0, 2, 5);
        firstOf(21, 1, "wanted", 0, 3, 0, -1, -1);
        firstOf(21, 1, "wanted", 0, 3, 0, 9, 1);
        firstOf(21, 2, "wanted", 0, 0, 0, -1, -1);
        firstOf(21, 2, "wanted", 0, 0, 1, 9, 1);
        firstOf(21, 4, "wanted", 0, 0, 2, -1, -1);
        firstOf(21, 4, "wanted", 0, 0, 2, 9, -1);
        firstOf(21, 3, "wanted", 0, 0, 2, 0, 4);
        firstOf(29, 1, "put", 3, -1, 0);
        firstOf(30, 1, "at", 3, -1, 2);
        firstOf(30, 2, "at", 0, -1, 1);
        firstOf(30, 2, "at", 0, 9, 0);
    }

    /** That nothing changed can be told only by what would see a change: each kind of change is seen. */
    private static void changesAreSeen() {
        seesChange(2, "surface", 0, 0, 0, 0, 0, 1, 1);
        seesChange(4, "board", 2, 15, 10, 10, 2, 2);
        seesChange(4, "board", 2, 14, 10, 10, 2, 2);
        seesChange(5, "eye", 3, 12, 14, 4);
        seesChange(5, "eye", 3, 13, 13, 4);
        seesChange(5, "eye", 3, 13, 14, 3);
        seesChange(6, "picture", 2, 0, 2, 2);
        seesChange(8, "paint", 4, 17, 0);
        seesChange(14, "painting", 15);
        seesChange(18, "hour", 0, 0, 1);
        seesChange(19, "plate", -1);
        seesChange(19, "plate", 1);
        seesChange(20, "want", 0, 1, 3, 0);
        seesChange(20, "want", 1, 4, 3, 1);
        seesChange(21, "wanted", 0, 0, 2, 2, 1);
        seesChange(27, "sheet", 3, 2, 0);
        seesChange(27, "sheet", 0, 2, 7);
        seesChange(28, "lose", 2);
        seesChange(29, "put", 0, 6, 9);
        seesChange(31, "tell", 0);
        seesChange(32, "name", 0);
    }

    private static void seesChange(int promise, String name, int... numbers) {
        Sentence.holds(promise, "they change nothing", x -> {
            Run twin = furnished(x.another(), FURNISHED);
            List<Long> got = everything(furnished(x, FURNISHED).does(name, numbers));
            List<Long> is = everything(twin);
            if (got.subList(1, got.size()).equals(is.subList(1, is.size()))) {
                x.wrong().add(Calls.text(name, numbers) + " is a change that nobody would see");
            }
        });
    }
}
