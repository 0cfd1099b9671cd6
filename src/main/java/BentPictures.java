import java.util.Arrays;

/** Pictures seen bent, as the document ../shared/DOC.md promises; words in capitals are the document's. */
public final class BentPictures {
    public static final int UNKNOWN = -1, OUTSIDE = -2, STATE = -3, FULL = -4, SPENT = -6, NONE = -9;
    public static final long LOST = Long.MIN_VALUE;

    private static final int FARTHEST = 40;
    private static final int LONGEST_SIDE = 8;
    private static final int MOST_CELLS = 64;
    private static final int MOST_SURFACES = 10;
    private static final int WALL = 0, MIRROR = 1, FAINT = 2;
    private static final int NO_SURFACE = -1;
    private static final int LAST_COLOUR = 9;
    private static final int COLOURS = 10;
    private static final int MOST_EYES = 4;
    private static final int ALL_EYES = 15;
    private static final int MOST_THROWS = 3;
    private static final int STEEPEST_RAY = 99;
    private static final int FARTHEST_SWAY = 9;
    private static final int MOST_HOURS = 6;
    private static final int STEEPEST_LIGHT = 9;
    private static final int MOST_HOLES = 16;
    private static final int MOST_SHEETS = 4;
    private static final int LONGEST_SHEET = 64;
    private static final int BYTES = 0, SHORTS = 1, INTS = 2;
    private static final int NO_LANE = -1;
    private static final int NO_FAULT = 0, NULL = 1, CAST = 2, INDEX = 3, SIZE = 4;

    private final Trace trail;
    private final Space space;
    private final Ray beam;
    private final Gallery gallery;
    private final Light light;
    private final Sheets sheets;

    public BentPictures() {
        trail = new Trace();
        space = new Space();
        beam = new Ray(space);
        gallery = new Gallery(space, beam);
        light = new Light(space, beam);
        sheets = new Sheets();
    }

    // ---- 1 space

    public int surface(int kind, int axis, int c, int u, int v, int w, int h) {
        if (!within(kind, WALL, FAINT) || !Flat.fits(axis, c, u, v, w, h)) {
            return OUTSIDE;
        }
        if (space.isFull()) {
            return FULL;
        }
        return space.add(kind, new Flat(axis, c, u, v, w, h));
    }

    public int about(int s, int what) {
        Wall wall = space.wall(s);
        if (wall == null) {
            return UNKNOWN;
        }
        Flat flat = wall.flat;
        switch (what) {
            case 0: return wall.kind();
            case 1: return flat.axis;
            case 2: return flat.c;
            case 3: return flat.u;
            case 4: return flat.v;
            case 5: return flat.w;
            case 6: return flat.h;
            case 7: return wall.notBare();
            default: return OUTSIDE;
        }
    }

    public int board(int axis, int c, int u, int v, int w, int h) {
        if (!Flat.fits(axis, c, u, v, w, h)) {
            return OUTSIDE;
        }
        return gallery.hang(new Flat(axis, c, u, v, w, h));
    }

    public int eye(int e, int x, int y, int z) {
        if (!Gallery.hasEye(e)) {
            return UNKNOWN;
        }
        if (!isPlace(x, y, z)) {
            return OUTSIDE;
        }
        gallery.moveEye(e, x, y, z);
        return 1;
    }

    public int picture(int e, int sheet, int lane, int i) {
        sheets.begin();
        if (!Gallery.hasEye(e) || !Sheets.has(sheet)) {
            return UNKNOWN;
        }
        if (!Sheets.isLane(lane)) {
            return OUTSIDE;
        }
        int fault = sheets.faultOfTaking(sheet, lane, i, gallery.board.cells);
        if (fault != NO_FAULT) {
            return sheets.failBy(fault);
        }
        return gallery.takePicture(e, sheets, sheet, i);
    }

    public int wish(int e, int cell) {
        return gallery.sees(e, cell) ? gallery.wished(e, cell) : UNKNOWN;
    }

    public int paint(int s, int cell, int colour) {
        Wall wall = space.wall(s);
        if (wall == null || !wall.flat.has(cell)) {
            return UNKNOWN;
        }
        if (!isColour(colour)) {
            return OUTSIDE;
        }
        if (!wall.takesColours()) {
            return STATE;
        }
        int before = wall.colours[cell];
        wall.colours[cell] = colour;
        return before;
    }

    public int colour(int s, int cell) {
        Wall wall = space.wall(s);
        if (wall == null || !wall.flat.has(cell)) {
            return UNKNOWN;
        }
        return wall.colours[cell];
    }

    public int ray(int x, int y, int z, int a, int b, int c) {
        if (!isPlace(x, y, z) || !isDirection(a, b, c, STEEPEST_RAY)) {
            return OUTSIDE;
        }
        beam.standAt(2 * x, 2 * y, 2 * z);
        beam.headFor(a, b, c);
        return beam.go(NO_SURFACE);
    }

    public int bounces(int x, int y, int z, int a, int b, int c) {
        if (!isPlace(x, y, z) || !isDirection(a, b, c, STEEPEST_RAY)) {
            return OUTSIDE;
        }
        beam.standAt(2 * x, 2 * y, 2 * z);
        beam.headFor(a, b, c);
        beam.go(NO_SURFACE);
        return beam.thrown;
    }

    public int seen(int e, int cell) {
        return gallery.sees(e, cell) ? gallery.look(e, cell) : UNKNOWN;
    }

    // ---- 2 painting

    public int wishes(int set, int what) {
        if (!isSetOfEyes(set) || !within(what, 0, 3)) {
            return OUTSIDE;
        }
        return gallery.countWishes(set, what);
    }

    public int painting(int set) {
        if (!isSetOfEyes(set)) {
            return OUTSIDE;
        }
        gallery.paintFor(set);
        return space.notBare();
    }

    public int wash() {
        int before = space.notBare();
        space.becomeBare();
        return before;
    }

    public int idle(int set) {
        if (!isSetOfEyes(set)) {
            return OUTSIDE;
        }
        return gallery.countIdle(set);
    }

    public int sway(int e, int d, int what) {
        if (!Gallery.hasEye(e)) {
            return UNKNOWN;
        }
        if (!within(d, 1, FARTHEST_SWAY) || !within(what, 0, 3)) {
            return OUTSIDE;
        }
        gallery.findWorst(e, d);
        switch (what) {
            case 0: return gallery.worst;
            case 1: return gallery.worstX;
            case 2: return gallery.worstY;
            default: return gallery.worstZ;
        }
    }

    // ---- 3 light, colours

    public int hour(int a, int b, int c) {
        if (!isDirection(a, b, c, STEEPEST_LIGHT)) {
            return OUTSIDE;
        }
        if (light.hours >= MOST_HOURS) {
            return FULL;
        }
        return light.addHour(a, b, c);
    }

    public int plate(int s) {
        if (s != NO_SURFACE && space.wall(s) == null) {
            return UNKNOWN;
        }
        int before = light.hasPlate() ? light.plateNumber : NONE;
        light.plateNumber = s;
        return before;
    }

    public int want(int hour, int s, int cell, boolean is) {
        if (!light.hasHour(hour) || !space.hasCell(s, cell)) {
            return UNKNOWN;
        }
        if (light.isWanted(hour, s, cell) == is) {
            return 0;
        }
        light.turnWanted(hour, s, cell);
        return 1;
    }

    public int wanted(int hour, int sheet, int lane, int i, int n) {
        sheets.begin();
        if (!light.hasHour(hour) || !Sheets.has(sheet)) {
            return UNKNOWN;
        }
        if (!Sheets.isLane(lane)) {
            return OUTSIDE;
        }
        int fault = sheets.faultOfTaking(sheet, lane, i, 2L * n);
        if (fault != NO_FAULT) {
            return sheets.failBy(fault);
        }
        return light.takeWanted(hour, sheets, sheet, i, n);
    }

    public int lit(int hour, int cell) {
        if (!light.hasPlate()) {
            return STATE;
        }
        if (!light.hasHour(hour) || !space.hasCell(light.plateNumber, cell)) {
            return UNKNOWN;
        }
        return light.shine(hour, cell);
    }

    public int may(int cell) {
        if (!light.hasPlate()) {
            return STATE;
        }
        if (!space.hasCell(light.plateNumber, cell)) {
            return UNKNOWN;
        }
        return light.mayHave(cell) ? 1 : 0;
    }

    public int fewest() {
        return light.hasPlate() ? light.findFewest() : STATE;
    }

    public int hole(int cell) {
        if (!light.hasPlate()) {
            return STATE;
        }
        if (!space.hasCell(light.plateNumber, cell)) {
            return UNKNOWN;
        }
        int found = light.findFewest();
        if (found == SPENT || found == NONE) {
            return found;
        }
        return light.holes.isChosen(cell) ? 1 : 0;
    }

    public int few(int k, int what) {
        if (!within(k, 1, LAST_COLOUR) || !within(what, 0, 1)) {
            return OUTSIDE;
        }
        gallery.findFew(k);
        return what == 0 ? gallery.fewSet : gallery.fewSum;
    }

    // ---- sheets, parts

    public int sheet(int k, int lane, int n) {
        sheets.begin();
        if (!Sheets.has(k)) {
            return UNKNOWN;
        }
        if (!Sheets.isLane(lane) || n > LONGEST_SHEET) {
            return OUTSIDE;
        }
        if (n < 0) {
            return sheets.failBy(SIZE);
        }
        sheets.renew(k, lane, n);
        return 1;
    }

    public int lose(int k) {
        if (!Sheets.has(k)) {
            return UNKNOWN;
        }
        return sheets.drop(k) ? 1 : 0;
    }

    public int put(int k, int i, int v) {
        sheets.begin();
        if (!Sheets.has(k)) {
            return UNKNOWN;
        }
        int fault = sheets.faultOfTaking(k, sheets.laneOf(k), i, 1);
        if (fault != NO_FAULT) {
            return sheets.failBy(fault);
        }
        sheets.write(k, i, v);
        return 1;
    }

    public long at(int k, int i, int lane) {
        sheets.begin();
        if (!Sheets.has(k) || !Sheets.isLane(lane)) {
            return LOST;
        }
        int fault = sheets.faultOfTaking(k, lane, i, 1);
        if (fault != NO_FAULT) {
            sheets.failBy(fault);
            return LOST;
        }
        return sheets.read(k, i);
    }

    public int tell(int s) {
        Wall wall = space.wall(s);
        return wall == null ? UNKNOWN : wall.told(trail);
    }

    public int name(int s) {
        Wall wall = space.wall(s);
        return wall == null ? UNKNOWN : wall.named(trail);
    }

    public int as(int s, int kind) {
        sheets.begin();
        Wall wall = space.wall(s);
        if (wall == null) {
            return UNKNOWN;
        }
        if (!within(kind, WALL, FAINT)) {
            return OUTSIDE;
        }
        boolean fits = kind == WALL
            || kind == MIRROR && wall instanceof Mirror
            || kind == FAINT && wall instanceof Faint;
        return fits ? 1 : sheets.failBy(CAST);
    }

    public int trace() {
        return trail.value;
    }

    public int fault() {
        return sheets.latestFault;
    }

    public int many(int what) {
        switch (what) {
            case 0: return space.surfaces;
            case 1: return space.countCells();
            case 2: return gallery.board.cells;
            case 3: return light.hours;
            case 4: return space.notBare();
            case 5: return light.countWanted();
            default: return OUTSIDE;
        }
    }

    // ---- what numbers must be like

    private static boolean within(int number, int least, int most) {
        return number >= least && number <= most;
    }

    private static boolean isPlace(int x, int y, int z) {
        return within(x, 0, FARTHEST) && within(y, 0, FARTHEST) && within(z, 0, FARTHEST);
    }

    private static boolean isDirection(int a, int b, int c, int most) {
        boolean small = within(a, -most, most) && within(b, -most, most) && within(c, -most, most);
        return small && (a != 0 || b != 0 || c != 0);
    }

    private static boolean isColour(int number) {
        return within(number, 0, LAST_COLOUR);
    }

    private static boolean isSetOfEyes(int set) {
        return within(set, 0, ALL_EYES);
    }

    /** TRACE, in which the bodies of TELLING leave their numbers. */
    private static final class Trace {
        int value;

        void leave(int number) {
            value = 31 * value + number;
        }
    }

    /** A FLAT: a piece of whole CELLS across an AXIS. */
    private static final class Flat {
        final int axis, c, u, v, w, h;
        final int first, second;
        final int cells;

        Flat(int axis, int c, int u, int v, int w, int h) {
            this.axis = axis;
            this.c = c;
            this.u = u;
            this.v = v;
            this.w = w;
            this.h = h;
            first = axis == 0 ? 1 : 0;
            second = axis == 2 ? 1 : 2;
            cells = w * h;
        }

        static boolean fits(int axis, int c, int u, int v, int w, int h) {
            return within(axis, 0, 2) && within(c, 0, FARTHEST) && sideFits(u, w) && sideFits(v, h);
        }

        private static boolean sideFits(int from, int length) {
            return within(length, 1, LONGEST_SIDE) && within(from, 0, FARTHEST - length);
        }

        boolean has(int cell) {
            return cell >= 0 && cell < cells;
        }

        /** Twice, since the middle of a CELL is not whole but twice it is. */
        int twiceMiddle(int cell, int along) {
            if (along == axis || w < 1) {
                return 2 * c;
            }
            return along == first ? 2 * (u + cell % w) + 1 : 2 * (v + cell / w) + 1;
        }
    }

    /** A SURFACE of kind 0, and what all kinds have. */
    private static class Wall {
        final int number;
        final Flat flat;
        final int[] colours;

        Wall(int number, Flat flat) {
            this.number = number;
            this.flat = flat;
            colours = new int[Math.max(0, flat.cells)];
        }

        int kind() {
            return WALL;
        }

        boolean takesColours() {
            return true;
        }

        boolean throwsBack(int cell) {
            return false;
        }

        int told(Trace trail) {
            return toldAsWall(trail);
        }

        /** A FAINT one tells this once more with MIRROR's left out, which super alone can't do. */
        final int toldAsWall(Trace trail) {
            trail.leave(1);
            return flat.cells;
        }

        int named(Trace trail) {
            trail.leave(4);
            return number;
        }

        final int notBare() {
            int count = 0;
            for (int cell = 0; cell < colours.length; cell++) {
                if (colours[cell] != 0) {
                    count++;
                }
            }
            return count;
        }
    }

    /** A SURFACE of kind 1. */
    private static class Mirror extends Wall {
        Mirror(int number, Flat flat) {
            super(number, flat);
        }

        int kind() {
            return MIRROR;
        }

        boolean takesColours() {
            return false;
        }

        boolean throwsBack(int cell) {
            return true;
        }

        int told(Trace trail) {
            trail.leave(2);
            return super.told(trail) + flat.axis;
        }
    }

    /** A SURFACE of kind 2. */
    private static final class Faint extends Mirror {
        Faint(int number, Flat flat) {
            super(number, flat);
        }

        int kind() {
            return FAINT;
        }

        boolean takesColours() {
            return true;
        }

        boolean throwsBack(int cell) {
            return flat.has(cell) && colours[cell] == 0;
        }

        int told(Trace trail) {
            trail.leave(3);
            return super.told(trail) + toldAsWall(trail);
        }

        int named(Trace trail) {
            trail.leave(5);
            return 60;
        }
    }

    /** All SURFACES. */
    private static final class Space {
        private final Wall[] walls = new Wall[MOST_SURFACES];
        int surfaces;

        boolean isFull() {
            return surfaces >= MOST_SURFACES;
        }

        /** The kind and the FLAT are as told, and it isn't full. */
        int add(int kind, Flat flat) {
            int number = surfaces;
            if (kind == WALL) {
                walls[number] = new Wall(number, flat);
            } else if (kind == MIRROR) {
                walls[number] = new Mirror(number, flat);
            } else {
                walls[number] = new Faint(number, flat);
            }
            surfaces++;
            return number;
        }

        /** The SURFACE, or null if there is no such. */
        Wall wall(int s) {
            return s >= 0 && s < surfaces ? walls[s] : null;
        }

        boolean hasCell(int s, int cell) {
            Wall wall = wall(s);
            return wall != null && wall.flat.has(cell);
        }

        /** COLOUR of what a RAY ENDS at, told as ray() does; bare if that is nothing. */
        int colourOf(int end) {
            Wall wall = wall(end < 0 ? NO_SURFACE : end / 100);
            int cell = end % 100;
            return wall != null && wall.flat.has(cell) ? wall.colours[cell] : 0;
        }

        int countCells() {
            int count = 0;
            for (int s = 0; s < surfaces; s++) {
                Wall wall = wall(s);
                count += wall == null ? 0 : wall.flat.cells;
            }
            return count;
        }

        int countTakers() {
            int count = 0;
            for (int s = 0; s < surfaces; s++) {
                Wall wall = wall(s);
                count += wall != null && wall.takesColours() ? wall.flat.cells : 0;
            }
            return count;
        }

        int notBare() {
            int count = 0;
            for (int s = 0; s < surfaces; s++) {
                Wall wall = wall(s);
                count += wall == null ? 0 : wall.notBare();
            }
            return count;
        }

        void becomeBare() {
            for (int s = 0; s < surfaces; s++) {
                Wall wall = wall(s);
                if (wall != null) {
                    Arrays.fill(wall.colours, 0);
                }
            }
        }
    }

    /**
     * A RAY on its way, one for all, used again and again. All is held twice as fine, so that middles are whole.
     * When it is thrown back, its start is mirrored and its t goes on: so it stays whole, and each t is a share
     * of two whole numbers (over, under), both above 0.
     */
    private static final class Ray {
        private final Space space;
        private final int[] start = new int[3];
        private final int[] way = new int[3];
        private int turnOver, turnUnder;
        private Wall next;
        private int nextCell, nextOver, nextUnder;
        int thrown;

        Ray(Space space) {
            this.space = space;
        }

        void standAt(int twiceX, int twiceY, int twiceZ) {
            start[0] = twiceX;
            start[1] = twiceY;
            start[2] = twiceZ;
        }

        void headFor(int a, int b, int c) {
            way[0] = a;
            way[1] = b;
            way[2] = c;
        }

        /** What it ENDS at, told as ray() does; one SURFACE may be left out. */
        int go(int leftOut) {
            thrown = 0;
            turnOver = 0;
            turnUnder = 1;
            for (int leg = 0; leg <= MOST_THROWS; leg++) {
                next = null;
                for (int s = 0; s < space.surfaces; s++) {
                    Wall wall = space.wall(s);
                    if (s != leftOut && wall != null) {
                        consider(wall);
                    }
                }
                if (next == null) {
                    return NONE;
                }
                if (!next.throwsBack(nextCell)) {
                    return 100 * next.number + nextCell;
                }
                if (leg < MOST_THROWS) {
                    turnBack(next.flat);
                }
            }
            return NONE;
        }

        private void turnBack(Flat flat) {
            int axis = flat.axis;
            start[axis] = 4 * flat.c - start[axis];
            way[axis] = -way[axis];
            turnOver = nextOver;
            turnUnder = nextUnder;
            thrown++;
        }

        /** Takes a SURFACE as the next, if the RAY COMES to it, and ahead of the next so far. */
        private void consider(Wall wall) {
            Flat flat = wall.flat;
            int under = way[flat.axis];
            int over = 2 * flat.c - start[flat.axis];
            if (under < 0) {
                under = -under;
                over = -over;
            }
            if (under == 0 || over * turnUnder <= turnOver * under) {
                return;
            }
            if (next != null && over * nextUnder >= nextOver * under) {
                return;
            }
            int i = cellAlong(flat.first, flat.u, over, under);
            if (i < 0 || i >= flat.w) {
                return;
            }
            int j = cellAlong(flat.second, flat.v, over, under);
            if (j < 0 || j >= flat.h) {
                return;
            }
            next = wall;
            nextCell = flat.w * j + i;
            nextOver = over;
            nextUnder = under;
        }

        /** How many whole cells beyond from it is along an AXIS at a t; below 0: it is ahead of from. */
        private int cellAlong(int axis, int from, int over, int under) {
            int share = (start[axis] - 2 * from) * under + way[axis] * over;
            return share < 0 || under < 1 ? -1 : share / (2 * under);
        }
    }

    /** THE BOARD, the EYES and their PICTURES, and what is asked of them. */
    private static final class Gallery {
        private final Space space;
        private final Ray ray;
        private final int[] places = new int[3 * MOST_EYES];
        private final int[][] pictures = new int[MOST_EYES][MOST_CELLS];
        private final int[] ends = new int[MOST_EYES * MOST_CELLS];
        private final int[] votes = new int[MOST_CELLS * COLOURS];
        private final long[] marks = new long[MOST_SURFACES];
        private final int[] tally = new int[COLOURS];
        Flat board = new Flat(2, 20, 0, 0, 1, 1);
        int worst, worstX, worstY, worstZ;
        int fewSet, fewSum;

        Gallery(Space space, Ray ray) {
            this.space = space;
            this.ray = ray;
        }

        static boolean hasEye(int e) {
            return e >= 0 && e < MOST_EYES;
        }

        boolean sees(int e, int cell) {
            return hasEye(e) && board.has(cell);
        }

        int hang(Flat flat) {
            board = flat;
            for (int e = 0; e < MOST_EYES; e++) {
                Arrays.fill(pictures[e], 0);
            }
            return board.cells;
        }

        void moveEye(int e, int x, int y, int z) {
            places[3 * e] = x;
            places[3 * e + 1] = y;
            places[3 * e + 2] = z;
        }

        /** The EYE and the SHEET are there, and so are all cells. */
        int takePicture(int e, Sheets sheets, int sheet, int i) {
            for (int cell = 0; cell < board.cells; cell++) {
                if (!isColour(sheets.read(sheet, i + cell))) {
                    return OUTSIDE;
                }
            }
            int count = 0;
            for (int cell = 0; cell < board.cells; cell++) {
                int colour = sheets.read(sheet, i + cell);
                pictures[e][cell] = colour;
                count += colour == 0 ? 0 : 1;
            }
            return count;
        }

        int wished(int e, int cell) {
            return pictures[e][cell];
        }

        private boolean isWish(int set, int e, int cell) {
            return (set >> e & 1) == 1 && pictures[e][cell] != 0;
        }

        int look(int e, int cell) {
            return lookFrom(places[3 * e], places[3 * e + 1], places[3 * e + 2], cell);
        }

        /** If the difference is all 0, the RAY goes along no AXIS and so COMES to nothing. */
        private int lookFrom(int x, int y, int z, int cell) {
            ray.standAt(2 * x, 2 * y, 2 * z);
            ray.headFor(board.twiceMiddle(cell, 0) - 2 * x,
                board.twiceMiddle(cell, 1) - 2 * y,
                board.twiceMiddle(cell, 2) - 2 * z);
            return ray.go(NO_SURFACE);
        }

        /** what: 0 all, 1 MET, 2 BLIND, 3 MISSED. */
        int countWishes(int set, int what) {
            int count = 0;
            for (int e = 0; e < MOST_EYES; e++) {
                for (int cell = 0; cell < board.cells; cell++) {
                    if (isWish(set, e, cell) && (what == 0 || fateOf(look(e, cell), pictures[e][cell]) == what)) {
                        count++;
                    }
                }
            }
            return count;
        }

        private int fateOf(int end, int colour) {
            if (end == NONE) {
                return 2;
            }
            return space.colourOf(end) == colour ? 1 : 3;
        }

        void paintFor(int set) {
            space.becomeBare();
            // All is SEEN ahead of the first COLOUR, since COLOURS change what is SEEN.
            for (int e = 0; e < MOST_EYES; e++) {
                for (int cell = 0; cell < board.cells; cell++) {
                    ends[e * MOST_CELLS + cell] = isWish(set, e, cell) ? look(e, cell) : NONE;
                }
            }
            for (int s = 0; s < space.surfaces; s++) {
                paintWall(s);
            }
        }

        private void paintWall(int s) {
            Wall wall = space.wall(s);
            if (wall == null || !wall.takesColours()) {
                return;
            }
            Arrays.fill(votes, 0);
            for (int e = 0; e < MOST_EYES; e++) {
                for (int cell = 0; cell < board.cells; cell++) {
                    int end = ends[e * MOST_CELLS + cell];
                    if (end >= 0 && end / 100 == s) {
                        votes[end % 100 * COLOURS + pictures[e][cell]]++;
                    }
                }
            }
            for (int cell = 0; cell < wall.flat.cells; cell++) {
                wall.colours[cell] = mostVoted(cell);
            }
        }

        /** Bare, if none has a vote; bare itself never has one. */
        private int mostVoted(int cell) {
            int best = 0;
            for (int colour = 1; colour <= LAST_COLOUR; colour++) {
                if (votes[cell * COLOURS + colour] > votes[cell * COLOURS + best]) {
                    best = colour;
                }
            }
            return best;
        }

        /** What is SEEN always takes COLOURS: all that takes them less what is SEEN is idle. */
        int countIdle(int set) {
            Arrays.fill(marks, 0L);
            for (int e = 0; e < MOST_EYES; e++) {
                for (int cell = 0; cell < board.cells; cell++) {
                    int end = isWish(set, e, cell) ? look(e, cell) : NONE;
                    if (space.hasCell(end < 0 ? NO_SURFACE : end / 100, end % 100)) {
                        marks[end / 100] |= 1L << end % 100;
                    }
                }
            }
            int count = space.countTakers();
            for (int s = 0; s < MOST_SURFACES; s++) {
                count -= Long.bitCount(marks[s]);
            }
            return count;
        }

        void findWorst(int e, int d) {
            worst = -1;
            for (int step = 0; step < 27; step++) {
                int x = places[3 * e] + (step / 9 - 1) * d;
                int y = places[3 * e + 1] + (step / 3 % 3 - 1) * d;
                int z = places[3 * e + 2] + (step % 3 - 1) * d;
                int unmet = isPlace(x, y, z) ? countUnmet(e, x, y, z) : -1;
                if (unmet > worst) {
                    worst = unmet;
                    worstX = x;
                    worstY = y;
                    worstZ = z;
                }
            }
        }

        private int countUnmet(int e, int x, int y, int z) {
            int count = 0;
            for (int cell = 0; cell < board.cells; cell++) {
                int colour = pictures[e][cell];
                // Nothing SEEN counts as bare, which no WISH wants.
                if (colour != 0 && space.colourOf(lookFrom(x, y, z, cell)) != colour) {
                    count++;
                }
            }
            return count;
        }

        void findFew(int k) {
            countColours();
            fewSet = 0;
            fewSum = 0;
            for (int set = 2; set < 1 << COLOURS; set += 2) {
                if (Integer.bitCount(set) == k) {
                    int sum = sumOfDifferences(set);
                    if (fewSet == 0 || sum < fewSum) {
                        fewSet = set;
                        fewSum = sum;
                    }
                }
            }
        }

        private void countColours() {
            Arrays.fill(tally, 0);
            for (int e = 0; e < MOST_EYES; e++) {
                for (int cell = 0; cell < board.cells; cell++) {
                    tally[pictures[e][cell]]++;
                }
            }
        }

        private int sumOfDifferences(int set) {
            int sum = 0;
            for (int colour = 1; colour <= LAST_COLOUR; colour++) {
                if (tally[colour] != 0) {
                    sum += tally[colour] * nearestDifference(set, colour);
                }
            }
            return sum;
        }

        private static int nearestDifference(int set, int colour) {
            int difference = 0;
            while (difference < COLOURS) {
                int below = colour - difference;
                boolean hasBelow = below > 0 && (set >> below & 1) == 1;
                if (hasBelow || (set >> colour + difference & 1) == 1) {
                    return difference;
                }
                difference++;
            }
            return difference;
        }
    }

    /** HOURS, THE PLATE and what is WANTED. */
    private static final class Light {
        private final Space space;
        private final Ray ray;
        private final int[] ways = new int[3 * MOST_HOURS];
        /** For each HOUR and SURFACE a set of CELLS, of which there are 64 at most. */
        private final long[] wantedCells = new long[MOST_HOURS * MOST_SURFACES];
        /** Where the HOLE looked at last by mayHave() shines, for each HOUR. */
        private final int[] shines = new int[MOST_HOURS];
        final Holes holes = new Holes();
        int hours;
        int plateNumber = NO_SURFACE;

        Light(Space space, Ray ray) {
            this.space = space;
            this.ray = ray;
        }

        boolean hasHour(int hour) {
            return hour >= 0 && hour < hours;
        }

        boolean hasPlate() {
            return space.wall(plateNumber) != null;
        }

        /** There is room for one more. */
        int addHour(int a, int b, int c) {
            int hour = hours;
            ways[3 * hour] = a;
            ways[3 * hour + 1] = b;
            ways[3 * hour + 2] = c;
            hours++;
            return hour;
        }

        boolean isWanted(int hour, int s, int cell) {
            return (wantedCells[hour * MOST_SURFACES + s] >> cell & 1L) == 1L;
        }

        void turnWanted(int hour, int s, int cell) {
            wantedCells[hour * MOST_SURFACES + s] ^= 1L << cell;
        }

        int countWanted() {
            int count = 0;
            for (int hour = 0; hour < hours; hour++) {
                count += countWantedAt(hour);
            }
            return count;
        }

        private int countWantedAt(int hour) {
            int count = 0;
            for (int s = 0; s < MOST_SURFACES; s++) {
                count += Long.bitCount(wantedCells[hour * MOST_SURFACES + s]);
            }
            return count;
        }

        /** The HOUR and the SHEET are there, and so are all cells. */
        int takeWanted(int hour, Sheets sheets, int sheet, int i, int n) {
            for (int k = 0; k < n; k++) {
                if (!space.hasCell(sheets.read(sheet, i + 2 * k), sheets.read(sheet, i + 2 * k + 1))) {
                    return UNKNOWN;
                }
            }
            int row = hour * MOST_SURFACES;
            Arrays.fill(wantedCells, row, row + MOST_SURFACES, 0L);
            for (int k = 0; k < n; k++) {
                int s = sheets.read(sheet, i + 2 * k);
                wantedCells[row + s] |= 1L << sheets.read(sheet, i + 2 * k + 1);
            }
            return countWantedAt(hour);
        }

        /** What the light of a HOLE ENDS at, told as ray() does. */
        int shine(int hour, int cell) {
            Wall plate = space.wall(plateNumber);
            if (plate == null) {
                return NONE;
            }
            Flat flat = plate.flat;
            ray.standAt(flat.twiceMiddle(cell, 0), flat.twiceMiddle(cell, 1), flat.twiceMiddle(cell, 2));
            ray.headFor(ways[3 * hour], ways[3 * hour + 1], ways[3 * hour + 2]);
            return ray.go(plateNumber);
        }

        boolean mayHave(int cell) {
            for (int hour = 0; hour < hours; hour++) {
                int end = shine(hour, cell);
                if (end >= 0 && !isWanted(hour, end / 100, end % 100)) {
                    return false;
                }
                shines[hour] = end;
            }
            return true;
        }

        /** How many HOLES are the fewest; SPENT; NONE. */
        int findFewest() {
            Wall plate = space.wall(plateNumber);
            int cells = plate == null ? 0 : plate.flat.cells;
            holes.clear();
            for (int cell = 0; cell < cells; cell++) {
                if (mayHave(cell)) {
                    if (holes.isFull()) {
                        return SPENT;
                    }
                    holes.add(cell, shines, hours);
                }
            }
            return holes.choose(countWanted());
        }
    }

    /**
     * HOLES that MAY be, and the choice of the fewest. What is lit is told in bits: that which a HOLE lights first
     * at an HOUR has the bit 16 times the HOUR and the HOLE's place here, in two words (HOURS 0 .. 3, and 4, 5).
     */
    private static final class Holes {
        private final int[] cells = new int[MOST_HOLES];
        private final int[] ends = new int[MOST_HOLES * MOST_HOURS];
        private final long[] low = new long[MOST_HOLES];
        private final long[] high = new long[MOST_HOLES];
        private final long[] restLow = new long[MOST_HOLES + 1];
        private final long[] restHigh = new long[MOST_HOLES + 1];
        private int count;
        private int brightest;
        private int chosen;

        void clear() {
            count = 0;
            chosen = 0;
            brightest = 0;
        }

        boolean isFull() {
            return count >= MOST_HOLES;
        }

        /** There is room for one more. */
        void add(int cell, int[] shines, int hours) {
            int k = count;
            cells[k] = cell;
            low[k] = 0L;
            high[k] = 0L;
            count++;
            for (int hour = 0; hour < hours && hour < shines.length; hour++) {
                int end = shines[hour];
                ends[k * MOST_HOURS + hour] = end;
                if (end >= 0) {
                    int first = firstWith(hour, end);
                    if (hour < 4) {
                        low[k] |= 1L << 16 * hour + first;
                    } else {
                        high[k] |= 1L << 16 * (hour - 4) + first;
                    }
                }
            }
            brightest = Math.max(brightest, Long.bitCount(low[k]) + Long.bitCount(high[k]));
        }

        private int firstWith(int hour, int end) {
            int k = 0;
            while (k < count - 1 && ends[k * MOST_HOURS + hour] != end) {
                k++;
            }
            return k;
        }

        /** All that they light is WANTED, so it is enough to count it. How many are chosen, or NONE. */
        int choose(int wanted) {
            restLow[count] = 0L;
            restHigh[count] = 0L;
            for (int k = count - 1; k >= 0; k--) {
                restLow[k] = restLow[k + 1] | low[k];
                restHigh[k] = restHigh[k + 1] | high[k];
            }
            if (Long.bitCount(restLow[0]) + Long.bitCount(restHigh[0]) < wanted) {
                return NONE;
            }
            for (int size = 0; size <= count; size++) {
                if (pick(0, size, 0, 0L, 0L)) {
                    return size;
                }
            }
            return NONE;
        }

        /** Picks more from a place on, as many as are left (16 at most, one less each level), the least row first. */
        private boolean pick(int from, int left, int picked, long litLow, long litHigh) {
            int missing = Long.bitCount(restLow[0] & ~litLow) + Long.bitCount(restHigh[0] & ~litHigh);
            if (missing > left * brightest) {
                return false;
            }
            if (left == 0) {
                chosen = picked;
                return true;
            }
            for (int k = from; k + left <= count; k++) {
                // What neither is lit nor will be by those from k on stays dark.
                if ((litLow | restLow[k]) != restLow[0] || (litHigh | restHigh[k]) != restHigh[0]) {
                    return false;
                }
                if (pick(k + 1, left - 1, picked | 1 << k, litLow | low[k], litHigh | high[k])) {
                    return true;
                }
            }
            return false;
        }

        boolean isChosen(int cell) {
            for (int k = 0; k < count; k++) {
                if (cells[k] == cell) {
                    return (chosen >> k & 1) == 1;
                }
            }
            return false;
        }
    }

    /** SHEETS, and the FAULT of the latest call that names one. */
    private static final class Sheets {
        private final int[][] rows = new int[MOST_SHEETS][LONGEST_SHEET];
        private final int[] lanes = {NO_LANE, NO_LANE, NO_LANE, NO_LANE};
        private final int[] lengths = new int[MOST_SHEETS];
        int latestFault;

        static boolean has(int k) {
            return k >= 0 && k < MOST_SHEETS;
        }

        static boolean isLane(int lane) {
            return within(lane, BYTES, INTS);
        }

        int laneOf(int k) {
            return lanes[k];
        }

        /** A call that names FAULTS has none until it comes to one. */
        void begin() {
            latestFault = NO_FAULT;
        }

        int failBy(int fault) {
            latestFault = fault;
            return -10 - fault;
        }

        void renew(int k, int lane, int n) {
            lanes[k] = lane;
            lengths[k] = n;
            Arrays.fill(rows[k], 0);
        }

        boolean drop(int k) {
            boolean had = lanes[k] != NO_LANE;
            lanes[k] = NO_LANE;
            lengths[k] = 0;
            return had;
        }

        /** The FAULT of taking n cells from i on of what a SHEET has, as a row of a LANE. */
        int faultOfTaking(int k, int lane, int i, long n) {
            if (lanes[k] == NO_LANE) {
                return NULL;
            }
            if (lanes[k] != lane) {
                return CAST;
            }
            if (n < 0) {
                return SIZE;
            }
            return i < 0 || i + n > lengths[k] ? INDEX : NO_FAULT;
        }

        /** The cell is there. */
        int read(int k, int i) {
            return rows[k][i];
        }

        /** The cell is there. */
        void write(int k, int i, int v) {
            int lane = lanes[k];
            rows[k][i] = lane == BYTES ? (byte) v : lane == SHORTS ? (short) v : v;
        }
    }
}
