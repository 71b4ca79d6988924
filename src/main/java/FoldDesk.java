import java.util.Arrays;

/**
 * A folding desk: a square of paper is folded flat along the lines of a grid, punched, cut and opened out
 * again, by single calls or by diagrams in a small language, and ways to kept shapes are looked for.
 */
public final class FoldDesk {
    /** There is none. */
    public static final int NONE = -1;
    /** A number that can't be. */
    public static final int RANGE = -2;
    /** Nothing would stay. */
    public static final int STAYS = -3;
    /** It would leave the table. */
    public static final int BEYOND = -4;
    /** No room. */
    public static final int FULL = -5;

    private static final int LEAST_SQUARES = 2;
    private static final int MOST_SQUARES = 8;
    private static final int FIRST_SQUARES = 4;
    private static final int MOST_TRIANGLES = 4 * MOST_SQUARES * MOST_SQUARES;
    private static final int MOST_ENTRIES = 300;
    /** So many numbers has the call of an act at the most. */
    private static final int NUMBERS = 7;

    // The acts, numbered as log() tells them; the other steps of a diagram go on from there.
    private static final int FOLD = 1;
    private static final int FLAP = 2;
    private static final int CUT = 3;
    private static final int PUNCH = 4;
    private static final int TURN = 5;
    private static final int QUARTER = 6;
    private static final int OPEN = 7;
    private static final int REPEAT = 8;
    private static final int MOVE = 9;
    private static final int DO = 10;
    private static final int TRY = 11;
    private static final int THICK = 12;

    private final Sheet paper;
    private final Pile pile;
    private final Creases creases;
    private final Acts acts;
    private final Shapes shapes;
    private final Seeker seeker;
    private final Reader reader;
    private final Runner runner;
    /** The numbers of the call at hand, as the acts take them. */
    private final int[] given;

    public FoldDesk() {
        paper = new Sheet();
        pile = new Pile(paper);
        creases = new Creases(paper, pile);
        acts = new Acts(pile);
        shapes = new Shapes(paper, pile);
        seeker = new Seeker(pile, shapes);
        reader = new Reader();
        runner = new Runner(reader, acts, pile);
        given = new int[NUMBERS];
        paper.ruleSquares(FIRST_SQUARES);
        pile.layAtFirst();
    }

    public int sheet(int n) {
        if (n < LEAST_SQUARES || n > MOST_SQUARES) {
            return RANGE;
        }
        pile.clearAway();
        paper.ruleSquares(n);
        pile.layAtFirst();
        acts.size = 0;
        return n;
    }

    // ---- acts

    public int fold(int kind, int c, boolean high, boolean over) {
        giveLine(kind, c, high, over);
        return acts.perform(FOLD, given, 0);
    }

    public int flap(int kind, int c, boolean high, boolean over, int x, int y, int q) {
        giveLine(kind, c, high, over);
        giveCell(4, x, y, q);
        return acts.perform(FLAP, given, 0);
    }

    public int cut(int kind, int c, boolean high) {
        giveLine(kind, c, high, false);
        return acts.perform(CUT, given, 0);
    }

    public int punch(int x, int y, int q) {
        Arrays.fill(given, 0);
        giveCell(0, x, y, q);
        return acts.perform(PUNCH, given, 0);
    }

    public int turn() {
        Arrays.fill(given, 0);
        return acts.perform(TURN, given, 0);
    }

    public int quarter() {
        Arrays.fill(given, 0);
        return acts.perform(QUARTER, given, 0);
    }

    public int open() {
        Arrays.fill(given, 0);
        return acts.perform(OPEN, given, 0);
    }

    public int undo() {
        if (acts.size == 0) {
            return NONE;
        }
        acts.takeBackTo(acts.size - 1);
        return acts.size;
    }

    private void giveLine(int kind, int c, boolean high, boolean over) {
        Arrays.fill(given, 0);
        given[0] = kind;
        given[1] = c;
        given[2] = high ? 1 : 0;
        given[3] = over ? 1 : 0;
    }

    private void giveCell(int at, int x, int y, int q) {
        if (at < 0 || at + 3 > NUMBERS) {
            return;
        }
        given[at] = x;
        given[at + 1] = y;
        given[at + 2] = q;
    }

    // ---- what lies

    public int triangle(int f, int what) {
        if (!paper.hasTriangle(f)) {
            return NONE;
        }
        boolean there = pile.isThere(f);
        if (what == 0) {
            return there ? 1 : 0;
        }
        if (!there) {
            return NONE;
        }
        int cell = pile.cellOf(f);
        switch (what) {
            case 1:
                return Table.xOf(cell);
            case 2:
                return Table.yOf(cell);
            case 3:
                return Table.quarterOf(cell);
            case 4:
                return pile.isFaceUp(f) ? 1 : 0;
            case 5:
                return pile.layerOf(f);
            default:
                return NONE;
        }
    }

    public int cell(int x, int y, int q, int what) {
        int cell = Table.at(x, y, q);
        if (cell == NONE || what < 0 || what > 4) {
            return NONE;
        }
        int height = pile.heightAt(cell);
        if (what == 0) {
            return height;
        }
        int f = pile.triangleIn(cell, what < 3 ? height - 1 : 0);
        if (f == NONE || what == 1 || what == 3) {
            return f;
        }
        return pile.isFaceUp(f) ? 1 : 0;
    }

    public int layer(int x, int y, int q, int k) {
        int cell = Table.at(x, y, q);
        return cell == NONE ? NONE : pile.triangleIn(cell, k);
    }

    public int side(int f, int e) {
        if (!paper.hasTriangle(f) || e < 0 || e > 2) {
            return NONE;
        }
        return creases.stateOf(f, e);
    }

    public int point(int x, int y, boolean centre, int what) {
        int least = centre ? 0 : 1;
        if (x < least || y < least || x >= paper.squares || y >= paper.squares) {
            return NONE;
        }
        creases.gatherRound(x, y, centre);
        switch (what) {
            case 0:
                return creases.countRays(Creases.MOUNTAIN);
            case 1:
                return creases.countRays(Creases.VALLEY);
            case 2:
                return creases.everySecondAngle();
            case 3:
                return creases.trianglesRound();
            default:
                return NONE;
        }
    }

    public int pieces() {
        return creases.labelPieces();
    }

    public int piece(int f) {
        if (!paper.hasTriangle(f) || !pile.isThere(f)) {
            return NONE;
        }
        creases.labelPieces();
        return creases.pieceOf(f);
    }

    public int view(int what) {
        View seen = shapes.measureView();
        switch (what) {
            case 0:
                return seen.cells;
            case 1:
                return pile.mostLayers();
            case 2:
                return seen.faces;
            case 3:
                return seen.cells - seen.faces;
            default:
                break;
        }
        if (seen.cells == 0) {
            return NONE;
        }
        switch (what) {
            case 4:
                return seen.leastX;
            case 5:
                return seen.greatestX;
            case 6:
                return seen.leastY;
            case 7:
                return seen.greatestY;
            default:
                return NONE;
        }
    }

    // ---- shapes

    public int keep(int k) {
        return shapes.mayBe(k) ? shapes.keepView(k) : RANGE;
    }

    public int alike(int k) {
        return shapes.isKept(k) ? shapes.quartersTo(k) : RANGE;
    }

    public int search(int k, int most) {
        if (!shapes.isKept(k) || most < 1 || most > Seeker.MOST_FOLDS) {
            return RANGE;
        }
        return seeker.seek(k, most);
    }

    public int found(int i, int what) {
        return seeker.told(i, what);
    }

    // ---- diagrams

    public int feed(int a, int b, int c, int d, int e) {
        Tape tape = reader.tape;
        if (tape.length + 20 > Tape.ROOM) {
            return FULL;
        }
        tape.append(a);
        tape.append(b);
        tape.append(c);
        tape.append(d);
        tape.append(e);
        return tape.length;
    }

    public int end(int n) {
        Tape tape = reader.tape;
        if (n < 0 || n > tape.length) {
            return NONE;
        }
        tape.length = n;
        return n;
    }

    public int diagram() {
        reader.readTape();
        return runner.run();
    }

    public int fault(int what) {
        switch (what) {
            case 0:
                return runner.flaw;
            case 1:
                return runner.flawPlace;
            case 2:
                return runner.refusal;
            case 3:
                return runner.begun;
            default:
                return NONE;
        }
    }

    public int log(int i, int what) {
        return acts.told(i, what);
    }

    public int count(int what) {
        switch (what) {
            case 0:
                return paper.squares;
            case 1:
                return pile.there;
            case 2:
                return acts.size;
            case 3:
                return seeker.tries;
            case 4:
                return reader.tape.length;
            case 5:
                return shapes.howMany();
            default:
                return NONE;
        }
    }

    /**
     * The table and its lines. A cell is one number, 128 (y + 8) + 4 (x + 8) + q, so that its parts are had
     * by shifts alone.
     */
    private static final class Table {
        static final int ROOM = 24 * 128;
        static final int LEAST = -8;
        static final int GREATEST = 15;
        static final int FARTHEST_LINE = 32;
        static final int KINDS = 4;

        static int at(int x, int y, int q) {
            if (x < LEAST || x > GREATEST || y < LEAST || y > GREATEST || q < 0 || q > 3) {
                return NONE;
            }
            return ((y - LEAST) << 7) | ((x - LEAST) << 2) | q;
        }

        static int xOf(int cell) {
            return ((cell >> 2) & 31) + LEAST;
        }

        static int yOf(int cell) {
            return (cell >> 7) + LEAST;
        }

        static int quarterOf(int cell) {
            return cell & 3;
        }

        static boolean hasLine(int kind, int c) {
            return kind >= 0 && kind < KINDS && c >= -FARTHEST_LINE && c <= FARTHEST_LINE;
        }

        /** The least c whose line of that kind has the cell on its low side; it is on the high side of all below. */
        static int reach(int kind, int cell) {
            int x = ((cell >> 2) & 31) + LEAST;
            int y = (cell >> 7) + LEAST;
            int q = cell & 3;
            switch (kind) {
                case 0:
                    return x + 1;
                case 1:
                    return y + 1;
                case 2:
                    return x + y + (q == 1 || q == 2 ? 2 : 1);
                default:
                    return x - y + (q < 2 ? 1 : 0);
            }
        }

        /** The cell's mirror image in a line; NONE when the table has no such cell. */
        static int mirror(int kind, int c, int cell) {
            int x = ((cell >> 2) & 31) + LEAST;
            int y = (cell >> 7) + LEAST;
            int q = cell & 3;
            switch (kind) {
                case 0:
                    return at(2 * c - 1 - x, y, (q & 1) == 0 ? q : 4 - q);
                case 1:
                    return at(x, 2 * c - 1 - y, (q & 1) == 0 ? 2 - q : q);
                case 2:
                    return at(c - 1 - y, c - 1 - x, q ^ 1);
                default:
                    return at(y + c, x - c, 3 - q);
            }
        }

        /** Whether a side of the cell, counted as those of a triangle that lies face up on it, lies on the line. */
        static boolean sideIsOnLine(int kind, int c, int cell, int e) {
            int x = ((cell >> 2) & 31) + LEAST;
            int y = (cell >> 7) + LEAST;
            int q = cell & 3;
            boolean odd = (q & 1) != 0;
            if (e == 0) {
                return odd ? kind == 0 && c == (q == 1 ? x + 1 : x) : kind == 1 && c == (q == 2 ? y + 1 : y);
            }
            boolean falls = (e == 1) != odd;
            return falls ? kind == 2 && c == x + y + 1 : kind == 3 && c == x - y;
        }

        static int turned(int cell) {
            int q = cell & 3;
            return at(7 - xOf(cell), yOf(cell), (q & 1) == 0 ? q : 4 - q);
        }

        static int quartered(int cell) {
            return at(7 - yOf(cell), xOf(cell), (cell + 1) & 3);
        }
    }

    /** The paper as it was at first: its triangles, where they are at home and what lies beside them. */
    private static final class Sheet {
        int squares;
        int size;
        private final int[] homes = new int[MOST_TRIANGLES];
        private final int[] beside = new int[3 * MOST_TRIANGLES];

        void ruleSquares(int n) {
            squares = n;
            size = 4 * n * n;
            int f = 0;
            for (int y = 0; y < n; y++) {
                for (int x = 0; x < n; x++) {
                    for (int q = 0; q < 4; q++) {
                        homes[f] = Table.at(x, y, q);
                        beside[3 * f] = triangleAcross(x, y, q);
                        beside[3 * f + 1] = triangleAt(x, y, (q + 1) & 3);
                        beside[3 * f + 2] = triangleAt(x, y, (q + 3) & 3);
                        f++;
                    }
                }
            }
        }

        private int triangleAcross(int x, int y, int q) {
            switch (q) {
                case 0:
                    return triangleAt(x, y - 1, 2);
                case 1:
                    return triangleAt(x + 1, y, 3);
                case 2:
                    return triangleAt(x, y + 1, 0);
                default:
                    return triangleAt(x - 1, y, 1);
            }
        }

        int triangleAt(int x, int y, int q) {
            if (x < 0 || y < 0 || x >= squares || y >= squares) {
                return NONE;
            }
            return 4 * (squares * y + x) + q;
        }

        boolean hasTriangle(int f) {
            return f >= 0 && f < size;
        }

        int homeOf(int f) {
            return f >= 0 && f < size ? homes[f] : NONE;
        }

        /** The triangle at the other side of side e; NONE at the paper's edge. */
        int besideOf(int f, int e) {
            return f >= 0 && f < size && e >= 0 && e < 3 ? beside[3 * f + e] : NONE;
        }
    }

    /**
     * What lies where. Each triangle has a spot: its cell, its layer and its way up in one number, so that
     * a whole state is one row that can be put by and laid out again; GONE for one that is not there.
     */
    private static final class Pile {
        private static final int GONE = -1;

        int there;
        /** How many cells have layers. */
        int cells;
        private final Sheet paper;
        private final int[] spots = new int[MOST_TRIANGLES];
        /** The spots that an act is about to make of all the old ones. */
        private final int[] fresh = new int[MOST_TRIANGLES];
        private final boolean[] chosen = new boolean[MOST_TRIANGLES];
        private final int[] queue = new int[MOST_TRIANGLES];
        private int queued;
        /** The cells to which the chosen ones come, in the queue's order, when all of them were found. */
        private final int[] images = new int[MOST_TRIANGLES];
        private boolean hasImages;
        private final int[] heights = new int[Table.ROOM];
        /** By how much the layers of each cell's other triangles rise; all 0 but while the chosen are turned under. */
        private final int[] rises = new int[Table.ROOM];
        /** The triangles cell by cell from the lowest layer up; each cell's part begins at its base. */
        private final int[] order = new int[MOST_TRIANGLES];
        private final int[] bases = new int[Table.ROOM];
        private boolean isOrdered;

        Pile(Sheet sheet) {
            paper = sheet;
        }

        private static int spotOf(int cell, int layer, boolean faceUp) {
            return cell == NONE ? GONE : (cell << 9) | (layer << 1) | (faceUp ? 1 : 0);
        }

        boolean isThere(int f) {
            return f >= 0 && f < paper.size && spots[f] != GONE;
        }

        int cellOf(int f) {
            return isThere(f) ? spots[f] >> 9 : NONE;
        }

        int layerOf(int f) {
            return isThere(f) ? (spots[f] >> 1) & 255 : NONE;
        }

        boolean isFaceUp(int f) {
            return isThere(f) && (spots[f] & 1) != 0;
        }

        int heightAt(int cell) {
            return cell < 0 || cell >= Table.ROOM ? 0 : heights[cell];
        }

        int mostLayers() {
            int most = 0;
            for (int f = 0; f < paper.size; f++) {
                if (spots[f] != GONE) {
                    most = Math.max(most, heights[spots[f] >> 9]);
                }
            }
            return most;
        }

        /** What the view has of a triangle: 0 when it is gone or covered, 1 its face, 2 its back. */
        int lookOf(int f) {
            if (!isThere(f)) {
                return 0;
            }
            int spot = spots[f];
            if (((spot >> 1) & 255) + 1 != heights[spot >> 9]) {
                return 0;
            }
            return (spot & 1) != 0 ? 1 : 2;
        }

        int triangleIn(int cell, int layer) {
            if (cell < 0 || cell >= Table.ROOM || layer < 0 || layer >= heights[cell]) {
                return NONE;
            }
            putInOrder();
            int at = bases[cell] + layer;
            return at < order.length ? order[at] : NONE;
        }

        private void putInOrder() {
            if (isOrdered) {
                return;
            }
            int taken = 0;
            for (int f = 0; f < paper.size; f++) {
                int spot = spots[f];
                if (spot != GONE && (spot & 510) == 0) {
                    bases[spot >> 9] = taken;
                    taken += heights[spot >> 9];
                }
            }
            for (int f = 0; f < paper.size; f++) {
                int spot = spots[f];
                int at = spot == GONE ? NONE : bases[spot >> 9] + ((spot >> 1) & 255);
                if (at >= 0 && at < order.length) {
                    order[at] = f;
                }
            }
            isOrdered = true;
        }

        /** The least reach of all that are there; with nothing there it is no less than the greatest. */
        int leastReach(int kind) {
            int least = Table.FARTHEST_LINE;
            for (int f = 0; f < paper.size; f++) {
                if (spots[f] != GONE) {
                    least = Math.min(least, Table.reach(kind, spots[f] >> 9));
                }
            }
            return least;
        }

        int greatestReach(int kind) {
            int greatest = -Table.FARTHEST_LINE;
            for (int f = 0; f < paper.size; f++) {
                if (spots[f] != GONE) {
                    greatest = Math.max(greatest, Table.reach(kind, spots[f] >> 9));
                }
            }
            return greatest;
        }

        // ---- whole states

        void clearAway() {
            for (int f = 0; f < paper.size; f++) {
                if (spots[f] != GONE) {
                    heights[spots[f] >> 9] = 0;
                }
                spots[f] = GONE;
            }
            there = 0;
            cells = 0;
            isOrdered = false;
            hasImages = false;
        }

        /** All the paper's triangles, those that were gone too, lie at home. */
        void layAtFirst() {
            clearAway();
            for (int f = 0; f < paper.size; f++) {
                fresh[f] = spotOf(paper.homeOf(f), 0, true);
            }
            layOut(fresh);
        }

        void putBy(int[] row) {
            if (row != null && row.length >= paper.size) {
                System.arraycopy(spots, 0, row, 0, paper.size);
            }
        }

        void layOut(int[] row) {
            if (row == null || row.length < paper.size) {
                return;
            }
            clearAway();
            for (int f = 0; f < paper.size; f++) {
                int spot = row[f];
                spots[f] = spot;
                if (spot != GONE) {
                    if (heights[spot >> 9] == 0) {
                        cells++;
                    }
                    heights[spot >> 9]++;
                    there++;
                }
            }
        }

        // ---- choosing a set

        private void chooseNone() {
            for (int i = 0; i < queued; i++) {
                chosen[queue[i]] = false;
            }
            queued = 0;
            hasImages = false;
        }

        private void choose(int f) {
            if (f >= 0 && f < chosen.length && !chosen[f] && queued < queue.length) {
                chosen[f] = true;
                queue[queued] = f;
                queued++;
            }
        }

        /** Chooses all on one side of a line, and tells how many these are. */
        int chooseSide(int kind, int c, boolean high) {
            chooseNone();
            for (int f = 0; f < paper.size; f++) {
                int spot = spots[f];
                if (spot != GONE && (Table.reach(kind, spot >> 9) > c) == high) {
                    choose(f);
                }
            }
            return queued;
        }

        int chooseCell(int cell) {
            chooseNone();
            int height = heightAt(cell);
            for (int k = 0; k < height; k++) {
                choose(triangleIn(cell, k));
            }
            return queued;
        }

        /** Chooses the least set that is free to go with the outermost triangle of a cell. */
        int chooseFlap(int kind, int c, boolean high, boolean over, int cell) {
            chooseNone();
            if (heightAt(cell) == 0 || (Table.reach(kind, cell) > c) != high) {
                return 0;
            }
            choose(triangleIn(cell, over ? heightAt(cell) - 1 : 0));
            for (int i = 0; i < queued && i < queue.length; i++) {
                int f = queue[i];
                chooseBeside(kind, c, high, f);
                // Those farther out follow, as each one chosen brings the next.
                choose(triangleIn(cellOf(f), layerOf(f) + (over ? 1 : -1)));
            }
            return queued;
        }

        private void chooseBeside(int kind, int c, boolean high, int f) {
            for (int e = 0; e < 3; e++) {
                int g = paper.besideOf(f, e);
                if (!isThere(g) || (Table.reach(kind, spots[g] >> 9) > c) != high) {
                    continue;
                }
                // With its back up a triangle's sides go round the other way.
                int lies = e == 0 || (spots[f] & 1) != 0 ? e : 3 - e;
                if (!Table.sideIsOnLine(kind, c, spots[f] >> 9, lies)) {
                    choose(g);
                }
            }
        }

        /** Finds the cells to which the chosen ones would come; false when the table has not all of them. */
        boolean findImages(int kind, int c) {
            hasImages = false;
            for (int i = 0; i < queued; i++) {
                int spot = spots[queue[i]];
                images[i] = spot == GONE ? NONE : Table.mirror(kind, c, spot >> 9);
                if (images[i] == NONE) {
                    return false;
                }
            }
            hasImages = true;
            return true;
        }

        // ---- moving

        /** Turns the chosen ones to their images, on top of what lies there. */
        void turnChosenOver() {
            if (!hasImages) {
                return;
            }
            System.arraycopy(spots, 0, fresh, 0, paper.size);
            for (int i = 0; i < queued; i++) {
                int spot = spots[queue[i]];
                int above = heights[spot >> 9] - 1 - ((spot >> 1) & 255);
                fresh[queue[i]] = spotOf(images[i], heights[images[i]] + above, (spot & 1) == 0);
            }
            layOut(fresh);
        }

        /** Turns the chosen ones to their images, below what lies there. */
        void turnChosenUnder() {
            if (!hasImages) {
                return;
            }
            for (int i = 0; i < queued; i++) {
                rises[spots[queue[i]] >> 9]--;
                rises[images[i]]++;
            }
            for (int f = 0; f < paper.size; f++) {
                int spot = spots[f];
                fresh[f] = spot == GONE || chosen[f] ? spot
                        : spotOf(spot >> 9, ((spot >> 1) & 255) + rises[spot >> 9], (spot & 1) != 0);
            }
            for (int i = 0; i < queued; i++) {
                int spot = spots[queue[i]];
                int above = -rises[spot >> 9] - 1 - ((spot >> 1) & 255);
                fresh[queue[i]] = spotOf(images[i], above, (spot & 1) == 0);
            }
            for (int i = 0; i < queued; i++) {
                rises[spots[queue[i]] >> 9] = 0;
                rises[images[i]] = 0;
            }
            layOut(fresh);
        }

        void takeChosenAway() {
            System.arraycopy(spots, 0, fresh, 0, paper.size);
            for (int i = 0; i < queued; i++) {
                fresh[queue[i]] = GONE;
            }
            layOut(fresh);
        }

        void turnAll() {
            for (int f = 0; f < paper.size; f++) {
                int cell = cellOf(f);
                fresh[f] = cell == NONE ? GONE
                        : spotOf(Table.turned(cell), heights[cell] - 1 - layerOf(f), !isFaceUp(f));
            }
            layOut(fresh);
        }

        void quarterAll() {
            for (int f = 0; f < paper.size; f++) {
                int cell = cellOf(f);
                fresh[f] = cell == NONE ? GONE : spotOf(Table.quartered(cell), layerOf(f), isFaceUp(f));
            }
            layOut(fresh);
        }

        void openAll() {
            for (int f = 0; f < paper.size; f++) {
                fresh[f] = isThere(f) ? spotOf(paper.homeOf(f), 0, true) : GONE;
            }
            layOut(fresh);
        }
    }

    /** What the sides of the paper's triangles are, at its points too, and the pieces it falls into. */
    private static final class Creases {
        static final int JOINED = 0;
        static final int VALLEY = 1;
        static final int MOUNTAIN = 2;
        static final int PARTED = 3;
        static final int EDGE = 4;

        /** The triangles round a corner, against the clock from straight to the right on. */
        private static final int[] CORNER_X = {0, 0, -1, -1, -1, -1, 0, 0};
        private static final int[] CORNER_Y = {0, 0, 0, 0, -1, -1, -1, -1};
        private static final int[] CORNER_Q = {0, 3, 1, 0, 2, 1, 3, 2};

        private final Sheet paper;
        private final Pile pile;
        /** Of the point at hand: what the sides are that go out from it, and the triangle behind each. */
        private final int[] rays = new int[8];
        private final int[] round = new int[8];
        private int raysRound;
        private final int[] labels = new int[MOST_TRIANGLES];
        private final int[] queue = new int[MOST_TRIANGLES];

        Creases(Sheet sheet, Pile lying) {
            paper = sheet;
            pile = lying;
        }

        int stateOf(int f, int e) {
            int g = paper.besideOf(f, e);
            if (g == NONE) {
                return EDGE;
            }
            if (!pile.isThere(f) || !pile.isThere(g)) {
                return PARTED;
            }
            if (pile.isFaceUp(f) == pile.isFaceUp(g)) {
                return JOINED;
            }
            int lower = pile.layerOf(f) < pile.layerOf(g) ? f : g;
            return pile.isFaceUp(lower) ? VALLEY : MOUNTAIN;
        }

        void gatherRound(int x, int y, boolean centre) {
            raysRound = centre ? 4 : 8;
            for (int i = 0; i < raysRound; i++) {
                // Of each triangle the side is told at which one comes to it, going against the clock.
                if (centre) {
                    round[i] = paper.triangleAt(x, y, (i + 2) & 3);
                    rays[i] = stateOf(round[i], 2);
                } else {
                    round[i] = paper.triangleAt(x + CORNER_X[i], y + CORNER_Y[i], CORNER_Q[i]);
                    rays[i] = stateOf(round[i], i & 1);
                }
            }
        }

        int countRays(int state) {
            int number = 0;
            for (int i = 0; i < raysRound; i++) {
                if (rays[i] == state) {
                    number++;
                }
            }
            return number;
        }

        int trianglesRound() {
            int number = 0;
            for (int i = 0; i < raysRound; i++) {
                if (pile.isThere(round[i])) {
                    number++;
                }
            }
            return number;
        }

        private boolean isCrease(int ray) {
            return rays[ray] == VALLEY || rays[ray] == MOUNTAIN;
        }

        int everySecondAngle() {
            int first = 0;
            while (first < raysRound && !isCrease(first)) {
                first++;
            }
            if (first == raysRound) {
                return 0;
            }
            int step = raysRound == 8 ? 45 : 90;
            int sum = 0;
            boolean counts = false;
            for (int i = 0; i < raysRound; i++) {
                if (isCrease((first + i) & (raysRound - 1))) {
                    counts = !counts;
                }
                if (counts) {
                    sum += step;
                }
            }
            return sum;
        }

        /** Gives each triangle the least one of its piece, and tells how many pieces there are. */
        int labelPieces() {
            Arrays.fill(labels, NONE);
            int number = 0;
            for (int f = 0; f < paper.size; f++) {
                if (pile.isThere(f) && labels[f] == NONE) {
                    number++;
                    labelFrom(f);
                }
            }
            return number;
        }

        private void labelFrom(int least) {
            int queued = 1;
            queue[0] = least;
            labels[least] = least;
            for (int i = 0; i < queued && i < queue.length; i++) {
                for (int e = 0; e < 3; e++) {
                    int g = paper.besideOf(queue[i], e);
                    if (pile.isThere(g) && labels[g] == NONE && queued < queue.length) {
                        labels[g] = least;
                        queue[queued] = g;
                        queued++;
                    }
                }
            }
        }

        int pieceOf(int f) {
            return f >= 0 && f < labels.length ? labels[f] : NONE;
        }
    }

    /** Does the acts, or refuses them, and keeps the log: each one that was done, with the state ahead of it. */
    private static final class Acts {
        int size;
        private final Pile pile;
        private final int[] acts = new int[MOST_ENTRIES];
        private final int[] numbers = new int[MOST_ENTRIES * NUMBERS];
        private final int[] answers = new int[MOST_ENTRIES];
        /** Its rows are made when they are first needed, and kept for later entries in their place. */
        private final int[][] before = new int[MOST_ENTRIES][];

        Acts(Pile lying) {
            pile = lying;
        }

        /** Does an act whose numbers stand in a row from a place on, in the order of its call. */
        int perform(int act, int[] given, int at) {
            if (given == null || at < 0 || at > given.length - NUMBERS) {
                return RANGE;
            }
            int answer;
            if (act <= CUT) {
                answer = weighLine(act, given, at);
            } else if (act == PUNCH) {
                answer = weighPunch(given[at], given[at + 1], given[at + 2]);
            } else {
                answer = pile.there == 0 ? NONE : pile.there;
            }
            if (answer < 0) {
                return answer;
            }
            if (size >= MOST_ENTRIES) {
                return FULL;
            }
            enter(act, given, at, answer);
            carryOut(act, given, at);
            return answer;
        }

        /** Chooses the set of a fold, flap or cut: how many are in it, or why it can't be done. */
        private int weighLine(int act, int[] given, int at) {
            int kind = given[at];
            int c = given[at + 1];
            boolean high = given[at + 2] != 0;
            if (!Table.hasLine(kind, c)) {
                return RANGE;
            }
            int number;
            if (act == FLAP) {
                int cell = Table.at(given[at + 4], given[at + 5], given[at + 6]);
                if (cell == NONE) {
                    return RANGE;
                }
                number = pile.chooseFlap(kind, c, high, given[at + 3] != 0, cell);
            } else {
                number = pile.chooseSide(kind, c, high);
            }
            if (number == 0) {
                return NONE;
            }
            if (number == pile.there) {
                return STAYS;
            }
            if (act != CUT && !pile.findImages(kind, c)) {
                return BEYOND;
            }
            return number;
        }

        private int weighPunch(int x, int y, int q) {
            int cell = Table.at(x, y, q);
            if (cell == NONE) {
                return RANGE;
            }
            int number = pile.chooseCell(cell);
            return number == 0 ? NONE : number;
        }

        private void enter(int act, int[] given, int at, int answer) {
            if (before[size] == null) {
                before[size] = new int[MOST_TRIANGLES];
            }
            pile.putBy(before[size]);
            acts[size] = act;
            answers[size] = answer;
            System.arraycopy(given, at, numbers, size * NUMBERS, NUMBERS);
            size++;
        }

        private void carryOut(int act, int[] given, int at) {
            switch (act) {
                case FOLD:
                case FLAP:
                    if (given[at + 3] != 0) {
                        pile.turnChosenOver();
                    } else {
                        pile.turnChosenUnder();
                    }
                    break;
                case CUT:
                case PUNCH:
                    pile.takeChosenAway();
                    break;
                case TURN:
                    pile.turnAll();
                    break;
                case QUARTER:
                    pile.quarterAll();
                    break;
                default:
                    pile.openAll();
                    break;
            }
        }

        /** Takes back all entries but the first ones, so many as told. */
        void takeBackTo(int entries) {
            if (entries >= 0 && entries < size) {
                pile.layOut(before[entries]);
                size = entries;
            }
        }

        int told(int entry, int what) {
            if (entry < 0 || entry >= size || what < 0 || what > NUMBERS + 1) {
                return NONE;
            }
            if (what == 0) {
                return acts[entry];
            }
            return what > NUMBERS ? answers[entry] : numbers[entry * NUMBERS + what - 1];
        }
    }

    /** The measures of a view: how many cells it has, and the squares that it spans. */
    private static final class View {
        int cells;
        int faces;
        int leastX;
        int greatestX;
        int leastY;
        int greatestY;

        void clear() {
            cells = 0;
            faces = 0;
            leastX = Table.GREATEST;
            greatestX = Table.LEAST;
            leastY = Table.GREATEST;
            greatestY = Table.LEAST;
        }

        void take(int cell, boolean face) {
            cells++;
            if (face) {
                faces++;
            }
            int x = Table.xOf(cell);
            int y = Table.yOf(cell);
            leastX = Math.min(leastX, x);
            greatestX = Math.max(greatestX, x);
            leastY = Math.min(leastY, y);
            greatestY = Math.max(greatestY, y);
        }

        void copy(View other) {
            cells = other.cells;
            faces = other.faces;
            leastX = other.leastX;
            greatestX = other.greatestX;
            leastY = other.leastY;
            greatestY = other.greatestY;
        }

        void turnQuarter() {
            int oldLeast = leastX;
            int oldGreatest = greatestX;
            leastX = 7 - greatestY;
            greatestX = 7 - leastY;
            leastY = oldLeast;
            greatestY = oldGreatest;
        }

        boolean spansLike(View other) {
            return greatestX - leastX == other.greatestX - other.leastX
                    && greatestY - leastY == other.greatestY - other.leastY;
        }
    }

    /** The views that are kept, and how the one at hand is like them. */
    private static final class Shapes {
        private static final int SHAPES = 6;

        private final Sheet paper;
        private final Pile pile;
        private final View seen = new View();
        private final View quartered = new View();
        private final View[] measures = new View[SHAPES];
        /** Of each shape, what is seen on each cell: 0 nothing, 1 face, 2 back. */
        private final byte[][] looks = new byte[SHAPES][];

        Shapes(Sheet sheet, Pile lying) {
            paper = sheet;
            pile = lying;
        }

        boolean mayBe(int k) {
            return k >= 0 && k < SHAPES;
        }

        boolean isKept(int k) {
            return mayBe(k) && measures[k] != null && looks[k] != null;
        }

        int howMany() {
            int number = 0;
            for (int k = 0; k < SHAPES; k++) {
                if (isKept(k)) {
                    number++;
                }
            }
            return number;
        }

        View measureView() {
            seen.clear();
            for (int f = 0; f < paper.size; f++) {
                int look = pile.lookOf(f);
                if (look != 0) {
                    seen.take(pile.cellOf(f), look == 1);
                }
            }
            return seen;
        }

        int keepView(int k) {
            if (!mayBe(k)) {
                return RANGE;
            }
            if (!isKept(k)) {
                measures[k] = new View();
                looks[k] = new byte[Table.ROOM];
            }
            measures[k].copy(measureView());
            Arrays.fill(looks[k], (byte) 0);
            for (int f = 0; f < paper.size; f++) {
                int look = pile.lookOf(f);
                if (look != 0) {
                    looks[k][pile.cellOf(f)] = (byte) look;
                }
            }
            return seen.cells;
        }

        /** By how many quarters, the least number, the view at hand becomes the shape. */
        int quartersTo(int k) {
            if (!isKept(k) || pile.cells != measures[k].cells) {
                return NONE;
            }
            measureView();
            if (seen.faces != measures[k].faces) {
                return NONE;
            }
            if (seen.cells == 0) {
                return 0;
            }
            quartered.copy(seen);
            for (int r = 0; r < 4; r++) {
                if (quartered.spansLike(measures[k]) && isSame(k, r)) {
                    return r;
                }
                quartered.turnQuarter();
            }
            return NONE;
        }

        private boolean isSame(int k, int r) {
            int right = measures[k].leastX - quartered.leastX;
            int up = measures[k].leastY - quartered.leastY;
            for (int f = 0; f < paper.size; f++) {
                int look = pile.lookOf(f);
                if (look == 0) {
                    continue;
                }
                int cell = pile.cellOf(f);
                for (int i = 0; i < r; i++) {
                    cell = Table.quartered(cell);
                }
                int image = Table.at(Table.xOf(cell) + right, Table.yOf(cell) + up, Table.quarterOf(cell));
                if (image == NONE || looks[k][image] != look) {
                    return false;
                }
            }
            return true;
        }
    }

    /** Looks for the fewest folds to a shape. */
    private static final class Seeker {
        static final int MOST_FOLDS = 3;
        private static final int MOST_TRIES = 1000;

        int tries;
        private final Pile pile;
        private final Shapes shapes;
        private int shape;
        /** The states ahead of each fold of the way at hand. */
        private final int[][] before = new int[MOST_FOLDS][MOST_TRIANGLES];
        private final int[] kinds = new int[MOST_FOLDS];
        private final int[] lines = new int[MOST_FOLDS];
        /** 0 low over, 1 low under, 2 high over, 3 high under. */
        private final int[] ways = new int[MOST_FOLDS];
        private int told;

        Seeker(Pile lying, Shapes kept) {
            pile = lying;
            shapes = kept;
        }

        int seek(int k, int most) {
            tries = 0;
            told = 0;
            shape = k;
            if (shapes.quartersTo(k) != NONE) {
                return 0;
            }
            int answer = NONE;
            for (int folds = 1; folds <= most && folds <= MOST_FOLDS && answer == NONE; folds++) {
                answer = goOn(0, folds);
            }
            told = Math.max(0, answer);
            return answer;
        }

        /** Tries all folds behind so many: the number of folds when one ends at the shape, NONE, or FULL. */
        private int goOn(int level, int folds) {
            if (level < 0 || level >= folds || level >= MOST_FOLDS) {
                return NONE;
            }
            pile.putBy(before[level]);
            for (int kind = 0; kind < Table.KINDS; kind++) {
                int beyond = pile.greatestReach(kind);
                for (int c = pile.leastReach(kind); c < beyond; c++) {
                    for (int way = 0; way < 4; way++) {
                        if (tries >= MOST_TRIES) {
                            return FULL;
                        }
                        kinds[level] = kind;
                        lines[level] = c;
                        ways[level] = way;
                        int answer = attempt(level, folds);
                        if (answer != NONE) {
                            return answer;
                        }
                    }
                }
            }
            return NONE;
        }

        private int attempt(int level, int folds) {
            tries++;
            int kind = kinds[level];
            int c = lines[level];
            pile.chooseSide(kind, c, ways[level] >= 2);
            if (!pile.findImages(kind, c)) {
                return NONE;
            }
            if ((ways[level] & 1) == 0) {
                pile.turnChosenOver();
            } else {
                pile.turnChosenUnder();
            }
            int answer;
            if (level + 1 < folds) {
                answer = goOn(level + 1, folds);
            } else {
                answer = shapes.quartersTo(shape) == NONE ? NONE : folds;
            }
            pile.layOut(before[level]);
            return answer;
        }

        int told(int i, int what) {
            if (i < 0 || i >= told || i >= MOST_FOLDS) {
                return NONE;
            }
            switch (what) {
                case 0:
                    return kinds[i];
                case 1:
                    return lines[i];
                case 2:
                    return ways[i] >> 1;
                case 3:
                    return 1 - (ways[i] & 1);
                default:
                    return NONE;
            }
        }
    }

    /** The tape, and its text token by token. */
    private static final class Tape {
        static final int ROOM = 2000;

        // The kinds of tokens; BAD is what is none.
        static final int END = 0;
        static final int WORD = 1;
        static final int NUMBER = 2;
        static final int SIGN = 3;
        static final int BAD = 4;

        private static final int MOST_LETTERS = 10;
        private static final int MOST_DIGITS = 3;

        int length;
        private final byte[] bytes = new byte[ROOM];
        private int next;
        /** Of the token at hand: what it is, its first byte, and its number, sign or word. */
        int kind;
        int place;
        int number;
        long word;

        void append(int four) {
            for (int shift = 24; shift >= 0; shift -= 8) {
                if (length >= 0 && length < ROOM) {
                    bytes[length] = (byte) (four >> shift);
                    length++;
                }
            }
        }

        void rewind() {
            next = 0;
            advance();
        }

        private int byteAt(int at) {
            return at >= 0 && at < length && at < ROOM ? bytes[at] & 255 : NONE;
        }

        private static boolean isLetter(int b) {
            return b >= 'a' && b <= 'z';
        }

        private static boolean isDigit(int b) {
            return b >= '0' && b <= '9';
        }

        void advance() {
            int b = byteAt(next);
            while (next < length && (b == ' ' || b == 10)) {
                next++;
                b = byteAt(next);
            }
            place = next;
            if (b == NONE) {
                kind = END;
            } else if (isLetter(b)) {
                takeWord();
            } else if (isDigit(b) || b == '-') {
                takeNumber(b == '-');
            } else {
                kind = b == '{' || b == '}' || b == ';' ? SIGN : BAD;
                number = b;
                next++;
            }
        }

        private void takeWord() {
            word = 0;
            while (next < length && isLetter(byteAt(next))) {
                word = addLetter(word, byteAt(next));
                next++;
            }
            kind = next - place > MOST_LETTERS ? BAD : WORD;
        }

        /** A word of up to ten letters is one number, so that words are compared at once. */
        static long addLetter(long word, int letter) {
            return (word << 5) | (letter - 'a' + 1);
        }

        private void takeNumber(boolean negative) {
            if (negative) {
                next++;
            }
            int digits = 0;
            number = 0;
            while (next < length && isDigit(byteAt(next))) {
                number = 10 * number + byteAt(next) - '0';
                digits++;
                next++;
            }
            if (negative) {
                number = -number;
            }
            kind = digits == 0 || digits > MOST_DIGITS ? BAD : NUMBER;
        }

        boolean isSign(int sign) {
            return kind == SIGN && number == sign;
        }
    }

    /** Reads the tape's diagram into steps, as far as it has no fault. */
    private static final class Reader {
        static final int SYNTAX = 1;
        static final int NAME = 2;
        static final int OUT_OF_RANGE = 3;
        static final int NO_ROOM = 4;

        static final int MOST_STEPS = 300;
        private static final int MOST_MOVES = 20;
        private static final int MOST_BLOCKS = 8;
        private static final int MOST_TIMES = 50;
        private static final int MOST_THICK = 256;

        /** All words of the language: the first twelve begin a step, then come the lines and the sides. */
        private static final String WORDS =
                "over under cut punch turn quarter open repeat move do try thick x y sum diff low high flap ";
        private static final int OVER_WORD = 0;
        private static final int THICK_WORD = 11;
        private static final int FIRST_LINE_WORD = 12;
        private static final int LOW_WORD = 16;
        private static final int HIGH_WORD = 17;
        private static final int FLAP_WORD = 18;
        private static final int NUMBER_OF_WORDS = 19;
        /** What the steps are that the first twelve words begin. */
        private static final int[] STEP_OF_WORD =
                {FOLD, FOLD, CUT, PUNCH, TURN, QUARTER, OPEN, REPEAT, MOVE, DO, TRY, THICK};

        final Tape tape = new Tape();
        int flaw;
        int flawPlace;
        int size;
        /** Of each step: what it is, its first byte, and which step comes behind it and its block. */
        final int[] steps = new int[MOST_STEPS];
        final int[] places = new int[MOST_STEPS];
        final int[] behind = new int[MOST_STEPS];
        /** An act's numbers as perform() takes them; of do the step that tells the move. */
        final int[] numbers = new int[MOST_STEPS * NUMBERS];
        /** Which tokens the step at hand still wants, a letter or sign each, and where its next number goes. */
        private String wanted = "";
        private int met;
        private int slot;
        private final long[] words = new long[NUMBER_OF_WORDS];
        private final int[] opened = new int[MOST_BLOCKS];
        private int depth;
        private int moves;
        private final long[] names = new long[MOST_MOVES];
        private final int[] tellers = new int[MOST_MOVES];
        private final boolean[] ended = new boolean[MOST_MOVES];

        Reader() {
            int at = 0;
            for (int i = 0; i < WORDS.length() && at < NUMBER_OF_WORDS; i++) {
                if (WORDS.charAt(i) == ' ') {
                    at++;
                } else {
                    words[at] = Tape.addLetter(words[at], WORDS.charAt(i));
                }
            }
        }

        /** Reads all of the tape, which is empty then. */
        void readTape() {
            flaw = 0;
            flawPlace = NONE;
            size = 0;
            depth = 0;
            moves = 0;
            want("");
            tape.rewind();
            for (int i = 0; i < Tape.ROOM && flaw == 0 && tape.kind != Tape.END; i++) {
                takeToken();
                if (flaw == 0) {
                    tape.advance();
                }
            }
            if (flaw == 0 && (depth > 0 || met < wanted.length())) {
                fail(SYNTAX);
            }
            tape.length = 0;
        }

        private void want(String tokens) {
            wanted = tokens;
            met = 0;
        }

        private void fail(int why) {
            flaw = why;
            flawPlace = tape.place;
        }

        private void takeToken() {
            if (met >= wanted.length()) {
                beginStepOrEndBlock();
                return;
            }
            int wish = wanted.charAt(met);
            met++;
            switch (wish) {
                case 'l':
                    takeWord(FIRST_LINE_WORD, LOW_WORD - 1);
                    break;
                case 's':
                    takeWord(LOW_WORD, HIGH_WORD);
                    break;
                case 'n':
                    takeNumber(-Table.FARTHEST_LINE, Table.FARTHEST_LINE);
                    break;
                case 'r':
                    takeNumber(1, MOST_TIMES);
                    break;
                case 't':
                    takeNumber(0, MOST_THICK);
                    break;
                case 'm':
                    takeNewName();
                    break;
                case 'd':
                    takeOldName();
                    break;
                case 'f':
                    takeFlapOrEnd();
                    break;
                case '{':
                    beginBlock();
                    break;
                default:
                    takeEnd();
                    break;
            }
        }

        /** Which of the language's words the token is; NONE for any other token. */
        private int wordAtHand() {
            if (tape.kind != Tape.WORD) {
                return NONE;
            }
            for (int i = 0; i < NUMBER_OF_WORDS; i++) {
                if (tape.word == words[i]) {
                    return i;
                }
            }
            return NONE;
        }

        private void beginStepOrEndBlock() {
            if (depth > 0 && tape.isSign('}')) {
                endBlock();
                return;
            }
            int word = wordAtHand();
            if (word < 0 || word > THICK_WORD) {
                fail(SYNTAX);
            } else if (size >= MOST_STEPS || STEP_OF_WORD[word] == MOVE && moves >= MOST_MOVES) {
                fail(NO_ROOM);
            } else {
                beginStep(STEP_OF_WORD[word]);
                if (word == OVER_WORD) {
                    numbers[(size - 1) * NUMBERS + 3] = 1;
                }
            }
        }

        private void beginStep(int step) {
            steps[size] = step;
            places[size] = tape.place;
            for (int i = 0; i < NUMBERS; i++) {
                numbers[size * NUMBERS + i] = 0;
            }
            slot = 0;
            size++;
            behind[size - 1] = size;
            want(restOf(step));
        }

        /** The tokens behind the first one: l line, s side, f flap or ;, n, r, t numbers, m, d names, { and ;. */
        private static String restOf(int step) {
            switch (step) {
                case FOLD:
                    return "lnsf";
                case CUT:
                    return "lns;";
                case PUNCH:
                    return "nnn;";
                case REPEAT:
                    return "r{";
                case MOVE:
                    return "m{";
                case DO:
                    return "d;";
                case TRY:
                    return "{";
                case THICK:
                    return "t;";
                default:
                    return ";";
            }
        }

        private void putNumber(int number) {
            if (size > 0 && slot < NUMBERS) {
                numbers[(size - 1) * NUMBERS + slot] = number;
                slot++;
            }
        }

        private void takeWord(int first, int last) {
            int word = wordAtHand();
            if (word < first || word > last) {
                fail(SYNTAX);
                return;
            }
            putNumber(word - first);
        }

        private void takeNumber(int least, int most) {
            if (tape.kind != Tape.NUMBER) {
                fail(SYNTAX);
            } else if (tape.number < least || tape.number > most) {
                fail(OUT_OF_RANGE);
            } else {
                putNumber(tape.number);
            }
        }

        private void takeEnd() {
            if (!tape.isSign(';')) {
                fail(SYNTAX);
            }
        }

        private void takeFlapOrEnd() {
            if (wordAtHand() != FLAP_WORD) {
                takeEnd();
                return;
            }
            if (size > 0) {
                steps[size - 1] = FLAP;
            }
            slot = 4;
            want("nnn;");
        }

        /** The step that tells the move of the word at hand, the first of those that have ended; NONE. */
        private int teller() {
            for (int i = 0; i < moves; i++) {
                if (ended[i] && names[i] == tape.word) {
                    return tellers[i];
                }
            }
            return NONE;
        }

        private void takeNewName() {
            if (tape.kind != Tape.WORD || wordAtHand() != NONE) {
                fail(SYNTAX);
            } else if (teller() != NONE) {
                fail(NAME);
            } else if (moves < MOST_MOVES) {
                names[moves] = tape.word;
                tellers[moves] = size - 1;
                ended[moves] = false;
                moves++;
            }
        }

        private void takeOldName() {
            if (tape.kind != Tape.WORD || wordAtHand() != NONE) {
                fail(SYNTAX);
            } else if (teller() == NONE) {
                fail(NAME);
            } else {
                putNumber(teller());
            }
        }

        private void beginBlock() {
            if (!tape.isSign('{')) {
                fail(SYNTAX);
            } else if (depth >= MOST_BLOCKS) {
                fail(NO_ROOM);
            } else {
                opened[depth] = size - 1;
                depth++;
            }
        }

        private void endBlock() {
            depth--;
            int step = opened[depth];
            if (step < 0 || step >= MOST_STEPS) {
                return;
            }
            behind[step] = size;
            for (int i = 0; i < moves; i++) {
                if (tellers[i] == step) {
                    ended[i] = true;
                }
            }
        }
    }

    /** Runs the diagram that was read. */
    private static final class Runner {
        private static final int STOPPED = 5;
        private static final int MOST_BEGUN = 400;
        /** Far above what 400 steps can need, with 50 rounds of each block. */
        private static final int MOST_ROUNDS = 100000;

        int flaw;
        int flawPlace = NONE;
        int refusal;
        int begun;
        private final Reader diagram;
        private final Acts acts;
        private final Pile pile;
        private int at;
        private int depth;
        /** Of each block that is being run: the step that has it, its rounds to come, and where it goes on. */
        private final int[] blocks = new int[MOST_BEGUN];
        private final int[] rounds = new int[MOST_BEGUN];
        private final int[] returns = new int[MOST_BEGUN];
        /** How many entries the log had ahead of a try; NONE of another block. */
        private final int[] bases = new int[MOST_BEGUN];

        Runner(Reader read, Acts done, Pile lying) {
            diagram = read;
            acts = done;
            pile = lying;
        }

        /** Runs all steps: how many acts were done; NONE when the text had a fault, or it stops. */
        int run() {
            flaw = diagram.flaw;
            flawPlace = diagram.flawPlace;
            refusal = 0;
            begun = 0;
            at = 0;
            depth = 0;
            int base = acts.size;
            for (int i = 0; i < MOST_ROUNDS && flaw == 0; i++) {
                if (depth > 0 && at == diagram.behind[blocks[depth - 1]]) {
                    endRound();
                } else if (at < 0 || at >= diagram.size) {
                    break;
                } else {
                    begun++;
                    if (begun <= MOST_BEGUN && diagram.steps[at] <= OPEN) {
                        refusal = Math.min(0, acts.perform(diagram.steps[at], diagram.numbers, at * NUMBERS));
                    }
                    if (begun > MOST_BEGUN || refusal < 0 || !goOn()) {
                        stop(base);
                    }
                }
            }
            return flaw == 0 ? acts.size - base : NONE;
        }

        /** Goes to the step that comes next, into a block or behind an act; false when thick stops it. */
        private boolean goOn() {
            int first = diagram.numbers[at * NUMBERS];
            switch (diagram.steps[at]) {
                case REPEAT:
                    beginBlock(at, first, diagram.behind[at], NONE);
                    return true;
                case DO:
                    beginBlock(first, 1, at + 1, NONE);
                    return true;
                case TRY:
                    beginBlock(at, 1, diagram.behind[at], acts.size);
                    return true;
                case THICK:
                    if (pile.mostLayers() > first) {
                        return false;
                    }
                    at++;
                    return true;
                default:
                    at = diagram.behind[at];
                    return true;
            }
        }

        private void beginBlock(int step, int times, int then, int base) {
            if (depth >= MOST_BEGUN || step < 0 || step >= diagram.size) {
                return;
            }
            blocks[depth] = step;
            rounds[depth] = times;
            returns[depth] = then;
            bases[depth] = base;
            depth++;
            at = step + 1;
        }

        private void endRound() {
            int block = depth - 1;
            rounds[block]--;
            if (rounds[block] > 0) {
                at = blocks[block] + 1;
            } else {
                at = returns[block];
                depth--;
            }
        }

        /** Goes on behind the innermost try; without any, all is taken back. */
        private void stop(int base) {
            int place = at >= 0 && at < diagram.size ? diagram.places[at] : NONE;
            for (int block = depth - 1; block >= 0; block--) {
                if (bases[block] != NONE) {
                    acts.takeBackTo(bases[block]);
                    at = returns[block];
                    depth = block;
                    refusal = 0;
                    return;
                }
            }
            acts.takeBackTo(base);
            flaw = STOPPED;
            flawPlace = place;
        }
    }
}
