/** Promises 27 to 36: sheets, parts. */
public final class PartsTest {
    private static final int LEAST = Integer.MIN_VALUE, MOST = Integer.MAX_VALUE;
    private static final long LOST = BentPictures.LOST;

    private PartsTest() {
    }

    public static void main(String[] args) {
        sheets();
        cutting();
        reading();
        telling();
        casting();
        faults();
        counting();
        Due.end();
    }

    private static void sheets() {
        BentPictures x = new BentPictures();
        Due.is("27: SHEET ahead of lane", x.sheet(4, 3, 0), BentPictures.UNKNOWN);
        Due.is("27: SHEET", x.sheet(-1, 0, 0), BentPictures.UNKNOWN);
        Due.is("27: lane ahead of SIZE", x.sheet(0, 3, -1), BentPictures.OUTSIDE);
        Due.is("27: lane", x.sheet(0, -1, 0), BentPictures.OUTSIDE);
        Due.is("27: n", x.sheet(0, 0, 65), BentPictures.OUTSIDE);
        Due.is("27: n", x.sheet(0, 0, MOST), BentPictures.OUTSIDE);
        Due.is("27: SIZE", x.sheet(0, 0, -1), -14);
        Due.is("35: fault()", x.fault(), 4);
        Due.is("27: SIZE", x.sheet(0, 0, LEAST), -14);
        Due.is("28: nothing yet", x.lose(0), 0);
        Due.is("35: lose names none", x.fault(), 4);
        Due.is("27: sheet(0, 0, 0)", x.sheet(0, 0, 0), 1);
        Due.is("35: fault()", x.fault(), 0);
        Due.is("29: no cell in a row of none", x.put(0, 0, 1), -13);
        Due.is("28: a row of none is something", x.lose(0), 1);
        Due.is("28: lose(0)", x.lose(0), 0);
        Due.is("28: lose(-1)", x.lose(-1), BentPictures.UNKNOWN);
        Due.is("28: lose(4)", x.lose(4), BentPictures.UNKNOWN);
        Due.is("27: sheet(3, 2, 64)", x.sheet(3, 2, 64), 1);
        Due.is("29: put(3, 63, 7)", x.put(3, 63, 7), 1);
        Due.is("27: SIZE changes nothing", x.sheet(3, 1, -1), -14);
        Due.is("30: at(3, 63, 2)", x.at(3, 63, 2), 7);
        Due.is("27: a new row", x.sheet(3, 2, 64), 1);
        Due.is("30: at(3, 63, 2)", x.at(3, 63, 2), 0);
    }

    private static void cutting() {
        BentPictures x = new BentPictures();
        int[] put = {127, 128, 255, 256, -129, 32767, 32768, 65535, -32769, MOST, LEAST};
        for (int lane = 0; lane < 3; lane++) {
            x.sheet(lane, lane, put.length);
            for (int i = 0; i < put.length; i++) {
                int due = lane == 0 ? (byte) put[i] : lane == 1 ? (short) put[i] : put[i];
                Due.is("29: put " + put[i], x.put(lane, i, put[i]), 1);
                Due.is("30: lane " + lane + " of " + put[i], x.at(lane, i, lane), due);
            }
        }
        Due.is("29: the byte of 128", x.at(0, 1, 0), -128);
        Due.is("29: the short of 32768", x.at(1, 6, 1), -32768);
    }

    private static void reading() {
        BentPictures x = new BentPictures();
        Due.is("29: NULL ahead of INDEX", x.put(1, -1, 0), -11);
        Due.is("35: fault()", x.fault(), 1);
        Due.is("29: SHEET", x.put(4, 0, 0), BentPictures.UNKNOWN);
        Due.is("35: fault()", x.fault(), 0);
        Due.is("29: SHEET", x.put(-1, 0, 0), BentPictures.UNKNOWN);
        Due.is("30: NULL, whatever the LANE", x.at(1, -1, 2), LOST);
        Due.is("35: fault()", x.fault(), 1);
        x.sheet(1, 1, 5);
        Due.is("29: INDEX", x.put(1, 5, 0), -13);
        Due.is("29: INDEX", x.put(1, -1, 0), -13);
        Due.is("29: INDEX", x.put(1, MOST, 0), -13);
        Due.is("29: INDEX", x.put(1, LEAST, 0), -13);
        Due.is("35: fault()", x.fault(), 3);
        Due.is("30: CAST ahead of INDEX", x.at(1, 5, 0), LOST);
        Due.is("35: fault()", x.fault(), 2);
        Due.is("30: INDEX", x.at(1, 5, 1), LOST);
        Due.is("35: fault()", x.fault(), 3);
        Due.is("30: lane", x.at(1, 0, 3), LOST);
        Due.is("35: fault()", x.fault(), 0);
        x.put(1, 5, 0);
        Due.is("30: SHEET", x.at(4, 0, 1), LOST);
        Due.is("35: fault()", x.fault(), 0);
        Due.is("30: at(1, 4, 1)", x.at(1, 4, 1), 0);
        x.put(1, 5, 0);
        Due.is("30: lane of nothing", x.at(0, 0, -1), LOST);
        Due.is("35: fault()", x.fault(), 0);
    }

    private static void telling() {
        BentPictures x = new BentPictures();
        x.surface(0, 2, 0, 0, 0, 3, 4);
        x.surface(1, 2, 0, 0, 0, 3, 5);
        x.surface(2, 1, 0, 0, 0, 3, 6);
        Due.is("31: WALL", x.tell(0), 12);
        Due.is("34: WALL", x.trace(), 1);
        Due.is("31: MIRROR", x.tell(1), 17);
        Due.is("34: MIRROR", x.trace(), (1 * 31 + 2) * 31 + 1);
        Due.is("31: FAINT", x.tell(2), 37);
        Due.is("34: FAINT", x.trace(), traceOf(1, 2, 1, 3, 2, 1, 1));
        Due.is("32: WALL", x.name(0), 0);
        Due.is("32: MIRROR", x.name(1), 1);
        Due.is("32: FAINT", x.name(2), 60);
        Due.is("34: names", x.trace(), traceOf(1, 2, 1, 3, 2, 1, 1, 4, 4, 5));
        Due.is("31: SURFACE", x.tell(3), BentPictures.UNKNOWN);
        Due.is("31: SURFACE", x.tell(-1), BentPictures.UNKNOWN);
        Due.is("32: SURFACE", x.name(3), BentPictures.UNKNOWN);
        Due.is("32: SURFACE", x.name(-1), BentPictures.UNKNOWN);
        Due.is("34: refusals leave nothing", x.trace(), traceOf(1, 2, 1, 3, 2, 1, 1, 4, 4, 5));
    }

    private static int traceOf(int... numbers) {
        int trace = 0;
        for (int number : numbers) {
            trace = 31 * trace + number;
        }
        return trace;
    }

    private static void casting() {
        BentPictures x = new BentPictures();
        for (int kind = 0; kind < 3; kind++) {
            x.surface(kind, 0, 0, 0, 0, 1, 1);
        }
        for (int s = 0; s < 3; s++) {
            for (int kind = 0; kind < 3; kind++) {
                Due.is("33: as(" + s + ", " + kind + ")", x.as(s, kind), kind <= s ? 1 : -12);
                Due.is("35: fault()", x.fault(), kind <= s ? 0 : 2);
            }
        }
        x.as(0, 2);
        Due.is("33: SURFACE ahead of kind", x.as(3, 3), BentPictures.UNKNOWN);
        Due.is("35: fault()", x.fault(), 0);
        Due.is("33: SURFACE", x.as(-1, 0), BentPictures.UNKNOWN);
        x.as(0, 2);
        Due.is("33: kind", x.as(0, 3), BentPictures.OUTSIDE);
        Due.is("35: fault()", x.fault(), 0);
        Due.is("33: kind", x.as(0, -1), BentPictures.OUTSIDE);
    }

    private static void faults() {
        BentPictures x = new BentPictures();
        Due.is("35: ahead of any", x.fault(), 0);
        x.put(0, 0, 0);
        x.surface(0, 0, 0, 0, 0, 1, 1);
        x.surface(9, 0, 0, 0, 0, 1, 1);
        x.hour(1, 0, 0);
        x.want(0, 0, 0, true);
        x.lose(0);
        x.tell(0);
        x.eye(9, 0, 0, 0);
        Due.is("35: calls that name none leave it", x.fault(), 1);
        Due.is("35: and it stays", x.fault(), 1);
        x.sheet(0, 0, 2);
        Due.is("35: one that came to none", x.fault(), 0);
    }

    private static void counting() {
        BentPictures x = new BentPictures();
        x.surface(0, 0, 0, 0, 0, 2, 3);
        x.surface(1, 1, 0, 0, 0, 4, 5);
        x.surface(2, 2, 0, 0, 0, 6, 7);
        x.board(0, 0, 0, 0, 8, 8);
        x.hour(1, 0, 0);
        x.hour(0, 1, 0);
        x.paint(0, 0, 1);
        x.paint(2, 41, 1);
        x.want(0, 0, 0, true);
        x.want(1, 0, 0, true);
        x.want(1, 2, 41, true);
        int[] due = {3, 68, 64, 2, 2, 3};
        for (int what = 0; what < 6; what++) {
            Due.is("36: many(" + what + ")", x.many(what), due[what]);
        }
        Due.is("36: many(-1)", x.many(-1), BentPictures.OUTSIDE);
        Due.is("36: many(6)", x.many(6), BentPictures.OUTSIDE);
    }
}
