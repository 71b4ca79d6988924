/**
 * The boundary cases of promises 3 to 10 and 27 and of Terms II, a test for each sentence that names one: the last
 * value that is still taken, the first one that is not, and that a refused act changes nothing.
 */
public final class ActEdgeTest {
    private static final int NONE = FoldDesk.NONE;
    private static final int RANGE = FoldDesk.RANGE;
    private static final int STAYS = FoldDesk.STAYS;
    private static final int BEYOND = FoldDesk.BEYOND;
    private static final int FULL = FoldDesk.FULL;
    private static final int LEAST = Integer.MIN_VALUE;
    private static final int GREATEST = Integer.MAX_VALUE;

    public static void main(String[] args) {
        kindsAreFromNoughtToThree();
        linesAreAsFarAsThirtyTwo();
        flapAndPunchAskForACell();
        cellsLieLowOrHigh();
        linesAtThePapersEnds();

        foldOfAnEmptySet();
        flapOfNothing();
        cutOfAnEmptySet();
        punchOfAnEmptyCell();
        turnQuarterOpenWithNothing();
        actsOfOneThatIsLeft();

        foldOfAll();
        flapOfAll();
        cutOfAll();
        punchMayTakeTheLast();

        foldsToTheTablesEdges();
        slantedFoldsToTheTablesEdges();
        flapToTheTablesEdge();
        cutIsNeverBeyond();

        threeHundredEntries();
        roomBehindUndo();

        rangeIsAheadOfAll();
        noneIsAheadOfStays();
        noneIsAheadOfFull();
        staysIsAheadOfBeyond();
        staysIsAheadOfFull();
        beyondIsAheadOfFull();

        flapTakesTheOutermost();
        flapStopsAtTheLine();
        flapOfALoosePiece();
        orderIsTurnedRound();
        turnsAcrossTheTable();
        quartersAcrossTheTable();
        openLeavesTheGone();

        undoOfAnEmptyLog();
        undoOfEachAct();
        undoOfAFullLog();
        undoPassesByWhatWasRefused();

        logEntriesEndWithTheLog();
        logWhatIsFromNoughtToEight();
        logNumbersOfEachAct();
        logNumbersOfShorterCalls();
        Check.end();
    }

    // ---- RANGE: "no such kind, c, CELL"; "kind 0: x = c, 1: y = c, 2: x + y = c, 3: x - y = c; c -32 .. 32"

    private static void kindsAreFromNoughtToThree() {
        for (int kind = 0; kind < 4; kind++) {
            FoldDesk desk = Check.desk(4);
            int c = kind == 3 ? 0 : kind == 2 ? 4 : 2;
            Check.due("fold of kind " + kind, desk.fold(kind, c, false, true), 32);
            desk.sheet(4);
            Check.due("flap of kind " + kind, desk.flap(kind, c, false, true, 0, kind == 3 ? 3 : 0, 3), 32);
            desk.sheet(4);
            Check.due("cut of kind " + kind, desk.cut(kind, c, false), 32);
        }
        int[] wrong = {-1, 4, 5, LEAST, GREATEST};
        for (int kind : wrong) {
            Check.refused("fold(" + kind + ", 1, true, true)", Check::used, d -> d.fold(kind, 1, true, true), RANGE);
            Check.refused("flap(" + kind + ", 1, false, true, 0, 0, 0)", Check::used,
                    d -> d.flap(kind, 1, false, true, 0, 0, 0), RANGE);
            Check.refused("cut(" + kind + ", 1, true)", Check::used, d -> d.cut(kind, 1, true), RANGE);
        }
    }

    private static void linesAreAsFarAsThirtyTwo() {
        for (int i = 0; i < 4; i++) {
            int kind = i;
            FoldDesk desk = Check.desk(2);
            Check.due("fold(" + kind + ", 32, false, true)", desk.fold(kind, 32, false, true), STAYS);
            Check.due("fold(" + kind + ", 32, true, true)", desk.fold(kind, 32, true, true), NONE);
            Check.due("fold(" + kind + ", -32, false, true)", desk.fold(kind, -32, false, true), NONE);
            Check.due("fold(" + kind + ", -32, true, true)", desk.fold(kind, -32, true, true), STAYS);
            Check.due("flap at 32", desk.flap(kind, 32, false, true, 0, 0, 0), STAYS);
            Check.due("flap at -32", desk.flap(kind, -32, true, false, 0, 0, 0), STAYS);
            Check.due("cut(" + kind + ", 32, false)", desk.cut(kind, 32, false), STAYS);
            Check.due("cut(" + kind + ", -32, true)", desk.cut(kind, -32, true), STAYS);
            int[] wrong = {33, -33, LEAST, GREATEST};
            for (int c : wrong) {
                Check.refused("fold(" + kind + ", " + c + ", true, true)", Check::used, d -> d.fold(kind, c, true, true), RANGE);
                Check.refused("flap(" + kind + ", " + c + ", true, true, 0, 0, 0)", Check::used,
                        d -> d.flap(kind, c, true, true, 0, 0, 0), RANGE);
                Check.refused("cut(" + kind + ", " + c + ", false)", Check::used, d -> d.cut(kind, c, false), RANGE);
            }
        }
    }

    private static void flapAndPunchAskForACell() {
        FoldDesk desk = Check.desk(2);
        int[][] last = {{-8, 0, 0}, {15, 0, 0}, {0, -8, 0}, {0, 15, 0}, {-8, -8, 3}, {15, 15, 3}};
        for (int[] at : last) {
            Check.due("flap at the table's edge", desk.flap(0, 1, at[0] > 0, true, at[0], at[1], at[2]), NONE);
            Check.due("punch at the table's edge", desk.punch(at[0], at[1], at[2]), NONE);
        }
        Check.due("punch(1, 1, 3)", desk.punch(1, 1, 3), 1);
        Check.due("flap(0, 1, true, true, 1, 1, 0)", desk.flap(0, 1, true, true, 1, 1, 0), 7);
        int[][] wrong = {{-9, 0, 0}, {16, 0, 0}, {0, -9, 0}, {0, 16, 0}, {0, 0, -1}, {0, 0, 4}, {LEAST, 0, 0},
            {GREATEST, 0, 0}, {0, LEAST, 0}, {0, GREATEST, 0}, {0, 0, LEAST}, {0, 0, GREATEST}};
        for (int[] at : wrong) {
            String cell = at[0] + ", " + at[1] + ", " + at[2] + ")";
            Check.refused("flap(0, 1, false, true, " + cell, Check::used,
                    d -> d.flap(0, 1, false, true, at[0], at[1], at[2]), RANGE);
            Check.refused("punch(" + cell, Check::used, d -> d.punch(at[0], at[1], at[2]), RANGE);
        }
    }

    /** "Each CELL lies on its LOW side (x, y, x + y, x - y below c in all of it) or on its HIGH one." */
    private static void cellsLieLowOrHigh() {
        // Of each line the triangles of its low side, as the paper lies at first.
        int[][] lines = {{0, 1}, {1, 1}, {2, 1}, {2, 2}, {2, 3}, {3, -1}, {3, 0}, {3, 1}};
        int[] low = {0x0f0f, 0x00ff, 0x0009, 0x099f, 0x9fff, 0x0c00, 0xcf0c, 0xffcf};
        for (int i = 0; i < lines.length; i++) {
            for (int high = 0; high < 2; high++) {
                FoldDesk desk = Check.desk(2);
                int number = Integer.bitCount(high == 1 ? ~low[i] & 0xffff : low[i]);
                Check.due("cut(" + lines[i][0] + ", " + lines[i][1] + ", " + (high == 1) + ")",
                        desk.cut(lines[i][0], lines[i][1], high == 1), number);
                for (int f = 0; f < 16; f++) {
                    boolean isLow = (low[i] >> f & 1) == 1;
                    Check.due("triangle(" + f + ", 0) behind cut " + i, desk.triangle(f, 0), isLow == (high == 1) ? 1 : 0);
                }
            }
        }
    }

    /** The last lines that go through the paper, and the first ones that don't. */
    private static void linesAtThePapersEnds() {
        int[] sizes = {2, 5, 8};
        for (int n : sizes) {
            FoldDesk desk = Check.desk(n);
            int[][] through = {{0, 1, 0, 4 * n}, {0, n - 1, 1, 4 * n}, {1, 1, 0, 4 * n}, {1, n - 1, 1, 4 * n},
                {2, 1, 0, 2}, {2, 2 * n - 1, 1, 2}, {3, 1 - n, 0, 2}, {3, n - 1, 1, 2}};
            for (int[] line : through) {
                Check.due("fold at the paper's end", desk.fold(line[0], line[1], line[2] == 1, true), line[3]);
                desk.undo();
            }
            int[][] beside = {{0, 0, 1}, {0, n, 0}, {1, 0, 1}, {1, n, 0}, {2, 0, 1}, {2, 2 * n, 0}, {3, -n, 1}, {3, n, 0}};
            for (int[] line : beside) {
                Check.due("fold of all", desk.fold(line[0], line[1], line[2] == 1, true), STAYS);
                Check.due("fold of none", desk.fold(line[0], line[1], line[2] == 0, true), NONE);
            }
            Check.due("count(2)", desk.count(2), 0);
        }
    }

    // ---- NONE: "the set is empty (also: flap()'s CELL has nothing, or lies on the other side; a PUNCH, TURN, QUARTER,
    // OPEN with nothing there at all)"

    private static void foldOfAnEmptySet() {
        Check.refused("fold(0, 1, true, true)", Check::used, d -> d.fold(0, 1, true, true), NONE);
        Check.refused("fold(0, 0, false, false)", Check::used, d -> d.fold(0, 0, false, false), NONE);
        Check.refused("fold(2, 3, true, true)", Check::used, d -> d.fold(2, 3, true, true), NONE);
        Check.refused("fold with nothing there", Check::bare, d -> d.fold(0, 1, true, true), NONE);
    }

    private static void flapOfNothing() {
        // The cell has nothing: beside the paper, and in its hole.
        Check.refused("flap(0, 1, true, true, 1, 0, 0)", Check::used, d -> d.flap(0, 1, true, true, 1, 0, 0), NONE);
        Check.refused("flap(1, 1, true, true, 0, 1, 3)", Check::used, d -> d.flap(1, 1, true, true, 0, 1, 3), NONE);
        // The cell lies on the other side, next to the line.
        Check.refused("flap(1, 1, true, true, 0, 0, 2)", Check::used, d -> d.flap(1, 1, true, true, 0, 0, 2), NONE);
        Check.refused("flap(1, 1, false, true, 0, 1, 0)", Check::used, d -> d.flap(1, 1, false, true, 0, 1, 0), NONE);
        Check.refused("flap(3, 0, true, false, 0, 0, 2)", Check::used, d -> d.flap(3, 0, true, false, 0, 0, 2), NONE);
        Check.refused("flap with nothing there", Check::bare, d -> d.flap(0, 1, false, true, 0, 0, 0), NONE);
        FoldDesk desk = new FoldDesk();
        Check.used(desk);
        Check.due("flap(1, 1, false, true, 0, 0, 2)", desk.flap(1, 1, false, true, 0, 0, 2), 8);
        desk.undo();
        Check.due("flap(1, 1, true, true, 0, 1, 0)", desk.flap(1, 1, true, true, 0, 1, 0), 6);
    }

    private static void cutOfAnEmptySet() {
        Check.refused("cut(0, 1, true)", Check::used, d -> d.cut(0, 1, true), NONE);
        Check.refused("cut(1, 0, false)", Check::used, d -> d.cut(1, 0, false), NONE);
        Check.refused("cut with nothing there", Check::bare, d -> d.cut(0, 1, true), NONE);
    }

    private static void punchOfAnEmptyCell() {
        Check.refused("punch(1, 0, 0)", Check::used, d -> d.punch(1, 0, 0), NONE);
        Check.refused("punch(0, 1, 3) again", Check::used, d -> d.punch(0, 1, 3), NONE);
        Check.refused("punch(0, 0, 0) with nothing there", Check::bare, d -> d.punch(0, 0, 0), NONE);
    }

    private static void turnQuarterOpenWithNothing() {
        Check.refused("turn() with nothing there", Check::bare, FoldDesk::turn, NONE);
        Check.refused("quarter() with nothing there", Check::bare, FoldDesk::quarter, NONE);
        Check.refused("open() with nothing there", Check::bare, FoldDesk::open, NONE);
    }

    private static void actsOfOneThatIsLeft() {
        FoldDesk desk = new FoldDesk();
        Check.bare(desk);
        desk.undo();
        Check.due("turn()", desk.turn(), 1);
        Check.due("quarter()", desk.quarter(), 1);
        Check.due("open()", desk.open(), 1);
        Check.lies(desk, 15, 1, 1, 3, 1, 0);
        desk.sheet(2);
        for (int f = 2; f < 16; f++) {
            desk.punch(f / 4 % 2, f / 8, f % 4);
        }
        // Triangles 0 and 1 are left: one of them is turned, and lies on the other.
        Check.due("fold(2, 1, true, true)", desk.fold(2, 1, true, true), 1);
        Check.layers(desk, 0, 0, 0, 0, 1);
        desk.undo();
        Check.due("flap(2, 1, false, false, 0, 0, 0)", desk.flap(2, 1, false, false, 0, 0, 0), 1);
        Check.layers(desk, 0, 0, 1, 0, 1);
        desk.undo();
        Check.due("cut(2, 1, false)", desk.cut(2, 1, false), 1);
        Check.due("punch(0, 0, 1)", desk.punch(0, 0, 1), 1);
        Check.due("count(1)", desk.count(1), 0);
    }

    // ---- STAYS "(fold(), flap(), CUT): all that are not GONE are in it"

    /** The paper without the triangles of a corner, or but for one of its two. */
    private static void corner(FoldDesk desk, boolean all) {
        desk.sheet(2);
        desk.punch(0, 0, 0);
        if (all) {
            desk.punch(0, 0, 3);
        }
    }

    private static void foldOfAll() {
        Check.refused("fold(0, 0, true, true)", Check::used, d -> d.fold(0, 0, true, true), STAYS);
        Check.refused("fold(1, 2, false, false)", Check::used, d -> d.fold(1, 2, false, false), STAYS);
        Check.refused("fold of all but those that are gone", d -> corner(d, true), d -> d.fold(2, 1, true, true), STAYS);
        FoldDesk desk = new FoldDesk();
        corner(desk, false);
        Check.due("fold of all but one", desk.fold(2, 1, true, true), 14);
    }

    private static void flapOfAll() {
        Check.refused("flap(0, 1, false, true, 0, 0, 0)", d -> d.sheet(2), d -> d.flap(0, 2, false, true, 0, 0, 0), STAYS);
        Check.refused("flap(1, 0, true, true, 0, 0, 0)", Check::used, d -> d.flap(1, 0, true, true, 0, 0, 0), STAYS);
        Check.refused("flap of all but those that are gone", d -> corner(d, true),
                d -> d.flap(2, 1, true, false, 1, 1, 0), STAYS);
        FoldDesk desk = new FoldDesk();
        corner(desk, false);
        Check.due("flap of all but one", desk.flap(2, 1, true, false, 1, 1, 0), 14);
    }

    private static void cutOfAll() {
        Check.refused("cut(0, 0, true)", Check::used, d -> d.cut(0, 0, true), STAYS);
        Check.refused("cut(0, 1, false)", Check::used, d -> d.cut(0, 1, false), STAYS);
        Check.refused("cut of all but those that are gone", d -> corner(d, true), d -> d.cut(2, 1, true), STAYS);
        FoldDesk desk = new FoldDesk();
        corner(desk, false);
        Check.due("cut of all but one", desk.cut(2, 1, true), 14);
        Check.due("count(1)", desk.count(1), 1);
    }

    /** STAYS is not said of a PUNCH: all may lie on its cell. */
    private static void punchMayTakeTheLast() {
        FoldDesk desk = new FoldDesk();
        Check.bare(desk);
        desk.undo();
        Check.due("punch(1, 1, 3)", desk.punch(1, 1, 3), 1);
        Check.due("count(1)", desk.count(1), 0);
        desk.sheet(8);
        for (int kind = 0; kind < 2; kind++) {
            desk.fold(kind, 4, true, true);
            desk.fold(kind, 2, true, true);
            desk.fold(kind, 1, true, true);
        }
        desk.fold(3, 0, false, true);
        desk.fold(2, 1, true, true);
        Check.due("punch(0, 0, 0)", desk.punch(0, 0, 0), 256);
        Check.due("count(1)", desk.count(1), 0);
    }

    // ---- BEYOND: "one would come to no CELL of THE TABLE"

    /** A paper of eight columns (kind 0) or rows (kind 1), folded so that they lie at -6 .. 0, or at 7 .. 13. */
    private static void halfway(FoldDesk desk, int kind, boolean low) {
        desk.sheet(8);
        Check.due("fold halfway", low ? desk.fold(kind, 1, true, true) : desk.fold(kind, 7, false, true), 224);
    }

    /** One more fold, so that they lie at -6 .. -1, or at 8 .. 13. */
    private static void oneLess(FoldDesk desk, int kind, boolean low) {
        halfway(desk, kind, low);
        Check.due("fold one less", desk.fold(kind, low ? 0 : 8, low, true), 64);
    }

    private static void foldsToTheTablesEdges() {
        for (int i = 0; i < 2; i++) {
            int kind = i;
            FoldDesk desk = new FoldDesk();
            halfway(desk, kind, true);
            Check.due("fold to -7", desk.fold(kind, -3, true, true), 160);
            Check.due("view of the least", desk.view(4 + 2 * kind), -7);
            Check.refused("fold to -9", d -> halfway(d, kind, true), d -> d.fold(kind, -4, true, true), BEYOND);
            oneLess(desk, kind, true);
            Check.due("fold to -8", desk.fold(kind, -4, true, false), 192);
            Check.due("view of the least", desk.view(4 + 2 * kind), -8);
            Check.refused("fold to -10", d -> oneLess(d, kind, true), d -> d.fold(kind, -5, true, false), BEYOND);
            halfway(desk, kind, false);
            Check.due("fold to 14", desk.fold(kind, 11, false, true), 160);
            Check.due("view of the greatest", desk.view(5 + 2 * kind), 14);
            Check.refused("fold to 16", d -> halfway(d, kind, false), d -> d.fold(kind, 12, false, true), BEYOND);
            oneLess(desk, kind, false);
            Check.due("fold to 15", desk.fold(kind, 12, false, false), 192);
            Check.due("view of the greatest", desk.view(5 + 2 * kind), 15);
            Check.refused("fold to 17", d -> oneLess(d, kind, false), d -> d.fold(kind, 13, false, false), BEYOND);
        }
    }

    private static void slantedFoldsToTheTablesEdges() {
        // Columns or rows, low or high; then kind, c and side of the last fold that is done, and of the first beyond.
        int[][] folds = {{0, 1, 2, 0, -1, 1}, {1, 1, 2, 0, -1, 1}, {0, 0, 2, 16, 17, 0}, {1, 0, 2, 16, 17, 0},
            {0, 1, 3, -8, -9, 1}, {1, 0, 3, -8, -9, 1}, {0, 0, 3, 8, 9, 0}, {1, 1, 3, 8, 9, 0}};
        int[] edges = {-8, -8, 15, 15, -8, 15, 15, -8};
        for (int i = 0; i < folds.length; i++) {
            int[] fold = folds[i];
            FoldDesk desk = new FoldDesk();
            halfway(desk, fold[0], fold[1] == 1);
            Check.due("slanted fold " + i, desk.fold(fold[2], fold[3], fold[5] == 1, true), 184);
            int along = fold[0] == 0 && fold[2] >= 2 ? 4 : 6;
            Check.due("it comes to the edge", desk.view(edges[i] < 0 ? along : along + 1), edges[i]);
            Check.refused("slanted fold " + i + " beyond", d -> halfway(d, fold[0], fold[1] == 1),
                    d -> d.fold(fold[2], fold[4], fold[5] == 1, true), BEYOND);
        }
    }

    private static void flapToTheTablesEdge() {
        FoldDesk desk = new FoldDesk();
        oneLess(desk, 0, true);
        Check.due("flap to -8", desk.flap(0, -4, true, true, -1, 0, 0), 192);
        Check.due("view(4)", desk.view(4), -8);
        Check.refused("flap to -10", d -> oneLess(d, 0, true), d -> d.flap(0, -5, true, true, -1, 0, 0), BEYOND);
        Check.refused("flap to 16", d -> halfway(d, 1, false), d -> d.flap(1, 12, false, false, 0, 7, 0), BEYOND);
    }

    /** BEYOND is not said of a CUT: nothing comes anywhere. */
    private static void cutIsNeverBeyond() {
        FoldDesk desk = new FoldDesk();
        halfway(desk, 0, true);
        Check.due("fold(0, -4, true, true)", desk.fold(0, -4, true, true), BEYOND);
        Check.due("cut(0, -4, true)", desk.cut(0, -4, true), 192);
        Check.due("count(1)", desk.count(1), 64);
    }

    // ---- FULL: "THE LOG, at most 300"

    /** Two folds, four layers on one square, and so many entries in all. */
    private static void filled(FoldDesk desk, int entries) {
        desk.sheet(2);
        if (entries % 2 == 1) {
            desk.open();
        }
        desk.fold(0, 1, true, true);
        desk.fold(1, 1, true, true);
        Check.fill(desk, entries);
    }

    private static void threeHundredEntries() {
        String[] names = {"fold", "flap", "cut", "punch", "turn", "quarter", "open"};
        Told.Call[] acts = {d -> d.fold(2, 1, false, true), d -> d.flap(1, 1, false, true, 0, 0, 0), d -> d.cut(2, 1, false),
            d -> d.punch(0, 0, 0), FoldDesk::turn, FoldDesk::quarter, FoldDesk::open};
        int[] answers = {8, 8, 8, 4, 16, 16, 16};
        for (int i = 0; i < acts.length; i++) {
            FoldDesk desk = new FoldDesk();
            filled(desk, 299);
            Check.due("the 300th entry by " + names[i], acts[i].on(desk), answers[i]);
            Check.due("count(2)", desk.count(2), 300);
            Check.due("log(299, 0)", desk.log(299, 0), i + 1);
            Check.due("log(299, 8)", desk.log(299, 8), answers[i]);
            Check.refused("the 301st entry by " + names[i], d -> filled(d, 300), acts[i], FULL);
        }
    }

    private static void roomBehindUndo() {
        FoldDesk desk = new FoldDesk();
        filled(desk, 300);
        Check.due("quarter()", desk.quarter(), FULL);
        Check.due("undo()", desk.undo(), 299);
        Check.due("quarter()", desk.quarter(), 16);
        Check.due("quarter()", desk.quarter(), FULL);
        Check.due("log(299, 0)", desk.log(299, 0), 6);
    }

    // ---- "An ACT is refused, the first of these that is so"

    private static void rangeIsAheadOfAll() {
        Check.refused("RANGE ahead of NONE, fold", Check::bare, d -> d.fold(4, 0, true, true), RANGE);
        Check.refused("RANGE ahead of NONE, fold", Check::used, d -> d.fold(0, 33, true, true), RANGE);
        Check.refused("RANGE ahead of NONE, flap", Check::bare, d -> d.flap(0, 1, false, true, 0, 0, 4), RANGE);
        Check.refused("RANGE ahead of NONE, flap", Check::bare, d -> d.flap(-1, 1, false, true, 0, 0, 0), RANGE);
        Check.refused("RANGE ahead of NONE, cut", Check::bare, d -> d.cut(0, -33, true), RANGE);
        Check.refused("RANGE ahead of NONE, punch", Check::bare, d -> d.punch(16, 0, 0), RANGE);
        Check.refused("RANGE ahead of STAYS, fold", Check::used, d -> d.fold(0, -33, true, true), RANGE);
        Check.refused("RANGE ahead of STAYS, cut", Check::used, d -> d.cut(0, 33, false), RANGE);
        Check.refused("RANGE ahead of BEYOND, flap", d -> halfway(d, 0, true),
                d -> d.flap(0, -4, true, true, 0, -9, 0), RANGE);
        Check.refused("RANGE ahead of FULL, fold", d -> filled(d, 300), d -> d.fold(4, 1, false, true), RANGE);
        Check.refused("RANGE ahead of FULL, flap", d -> filled(d, 300), d -> d.flap(1, 1, false, true, 0, 0, -1), RANGE);
        Check.refused("RANGE ahead of FULL, cut", d -> filled(d, 300), d -> d.cut(2, 33, false), RANGE);
        Check.refused("RANGE ahead of FULL, punch", d -> filled(d, 300), d -> d.punch(0, 16, 0), RANGE);
    }

    /** With nothing there the empty set is all that are not GONE. */
    private static void noneIsAheadOfStays() {
        Check.refused("NONE ahead of STAYS, fold", Check::bare, d -> d.fold(0, 1, false, true), NONE);
        Check.refused("NONE ahead of STAYS, flap", Check::bare, d -> d.flap(0, 1, false, false, 0, 0, 0), NONE);
        Check.refused("NONE ahead of STAYS, cut", Check::bare, d -> d.cut(0, 1, false), NONE);
    }

    /** All gone, and no room in the log. */
    private static void bareAndFull(FoldDesk desk) {
        desk.sheet(2);
        Check.fill(desk, 284);
        for (int f = 0; f < 16; f++) {
            desk.punch(f / 4 % 2, f / 8, f % 4);
        }
        Check.due("count(2)", desk.count(2), 300);
    }

    private static void noneIsAheadOfFull() {
        Check.refused("NONE ahead of FULL, fold", d -> filled(d, 300), d -> d.fold(0, 1, true, true), NONE);
        Check.refused("NONE ahead of FULL, flap", d -> filled(d, 300), d -> d.flap(1, 1, true, true, 0, 0, 0), NONE);
        Check.refused("NONE ahead of FULL, flap", d -> filled(d, 300), d -> d.flap(1, 1, true, true, 0, 1, 0), NONE);
        Check.refused("NONE ahead of FULL, cut", d -> filled(d, 300), d -> d.cut(2, 2, true), NONE);
        Check.refused("NONE ahead of FULL, punch", d -> filled(d, 300), d -> d.punch(1, 1, 0), NONE);
        Check.refused("NONE ahead of FULL, turn", ActEdgeTest::bareAndFull, FoldDesk::turn, NONE);
        Check.refused("NONE ahead of FULL, quarter", ActEdgeTest::bareAndFull, FoldDesk::quarter, NONE);
        Check.refused("NONE ahead of FULL, open", ActEdgeTest::bareAndFull, FoldDesk::open, NONE);
        Check.refused("NONE ahead of FULL, punch", ActEdgeTest::bareAndFull, d -> d.punch(0, 0, 0), NONE);
    }

    private static void staysIsAheadOfBeyond() {
        Check.refused("STAYS ahead of BEYOND, fold", d -> halfway(d, 0, true), d -> d.fold(0, -6, true, true), STAYS);
        Check.refused("STAYS ahead of BEYOND, fold", Check::used, d -> d.fold(3, 20, false, true), STAYS);
        Check.refused("STAYS ahead of BEYOND, flap", d -> halfway(d, 0, true),
                d -> d.flap(0, -6, true, true, 0, 0, 0), STAYS);
        Check.refused("STAYS ahead of BEYOND, flap", Check::used, d -> d.flap(2, 30, false, true, 0, 0, 0), STAYS);
    }

    private static void staysIsAheadOfFull() {
        Check.refused("STAYS ahead of FULL, fold", d -> filled(d, 300), d -> d.fold(0, 0, true, true), STAYS);
        Check.refused("STAYS ahead of FULL, flap", d -> filled(d, 300), d -> d.flap(0, 0, true, true, 0, 0, 0), STAYS);
        Check.refused("STAYS ahead of FULL, cut", d -> filled(d, 300), d -> d.cut(0, 1, false), STAYS);
    }

    private static void halfwayAndFull(FoldDesk desk) {
        halfway(desk, 0, true);
        desk.undo();
        desk.open();
        desk.fold(0, 1, true, true);
        Check.fill(desk, 300);
    }

    private static void beyondIsAheadOfFull() {
        Check.refused("BEYOND ahead of FULL, fold", ActEdgeTest::halfwayAndFull, d -> d.fold(0, -4, true, true), BEYOND);
        Check.refused("BEYOND ahead of FULL, flap", ActEdgeTest::halfwayAndFull,
                d -> d.flap(0, -4, true, true, 0, 0, 0), BEYOND);
        Check.refused("FULL", ActEdgeTest::halfwayAndFull, d -> d.fold(0, -3, true, true), FULL);
    }

    // ---- how far an act goes

    /** "the top one (OVER; the lowest one, UNDER) of a CELL told" */
    private static void flapTakesTheOutermost() {
        FoldDesk desk = Check.desk(3);
        desk.fold(0, 1, false, true);
        desk.fold(0, 2, true, true);
        // Three layers: column 1, then 0, then 2.
        Check.layers(desk, 1, 0, 0, 4, 0, 8);
        Check.due("flap over", desk.flap(0, 2, false, true, 1, 0, 0), 12);
        Check.lies(desk, 8, 2, 0, 0, 1, 0);
        desk.undo();
        // The lowest is column 1, on which column 0 hangs.
        Check.due("flap under", desk.flap(0, 2, false, false, 1, 0, 0), 24);
        Check.layers(desk, 2, 0, 0, 0, 4);
        desk.undo();
        desk.undo();
        desk.fold(0, 2, true, false);
        Check.layers(desk, 1, 0, 0, 8, 4, 0);
        Check.due("flap under", desk.flap(0, 2, false, false, 1, 0, 0), 12);
        Check.lies(desk, 8, 2, 0, 0, 1, 0);
        desk.undo();
        Check.due("flap over", desk.flap(0, 1, true, true, 1, 0, 0), 12);
        Check.lies(desk, 0, 0, 0, 0, 1, 0);
    }

    /** "JOINED to one of the set by a side that does not lie on the LINE" */
    private static void flapStopsAtTheLine() {
        int[][] lines = {{0, 1}, {1, 1}, {2, 2}, {3, 0}};
        boolean[] both = {true, false};
        for (int[] line : lines) {
            for (boolean high : both) {
                for (boolean over : both) {
                    FoldDesk desk = Check.desk(2);
                    desk.fold(line[0], line[1], high, over);
                    int f = over ? top(desk) : lowest(desk);
                    int x = desk.triangle(f, 1);
                    int y = desk.triangle(f, 2);
                    int q = desk.triangle(f, 3);
                    // The half that was folded lies outermost, and goes back alone: its crease is on the line.
                    Check.due("flap back", desk.flap(line[0], line[1], !high, over, x, y, q), 8);
                    Check.due("view(1)", desk.view(1), 1);
                    Check.due("view(2)", desk.view(2), 16);
                }
            }
        }
    }

    private static int top(FoldDesk desk) {
        for (int f = 0; f < 16; f++) {
            if (desk.triangle(f, 5) == 1) {
                return f;
            }
        }
        return NONE;
    }

    private static int lowest(FoldDesk desk) {
        for (int f = 0; f < 16; f++) {
            if (desk.triangle(f, 5) == 0) {
                return f;
            }
        }
        return NONE;
    }

    /** Those that are not JOINED any more stay, unless they lie above. */
    private static void flapOfALoosePiece() {
        FoldDesk desk = Check.desk(2);
        desk.punch(0, 0, 1);
        desk.punch(0, 0, 2);
        Check.due("flap of the loose corner", desk.flap(2, 3, false, true, 0, 0, 0), 2);
        Check.lies(desk, 0, 2, 2, 1, 0, 0);
        desk.undo();
        Check.due("flap of the rest", desk.flap(2, 3, false, true, 1, 0, 0), 10);
        desk.undo();
        Check.due("fold of both", desk.fold(2, 3, false, true), 12);
        desk.undo();
        desk.fold(2, 1, false, true);
        // The loose corner lies on the hole then; nothing is below it.
        Check.layers(desk, 0, 0, 1, 0);
        desk.undo();
        desk.flap(2, 2, false, true, 0, 0, 0);
        Check.layers(desk, 1, 1, 1, 13, 0);
        Check.due("flap of the paper below it", desk.flap(2, 2, true, false, 1, 1, 1), 8);
        Check.layers(desk, 1, 1, 1, 0);
        desk.undo();
        Check.due("flap from below, without what lies above", desk.flap(2, 3, true, false, 1, 1, 1), 2);
        desk.undo();
        Check.due("flap from above, with what lies above", desk.flap(2, 2, true, true, 1, 0, 1), 8 + 2);
        desk.undo();
        // With the other side up what lay above lies below.
        desk.turn();
        Check.layers(desk, 6, 1, 3, 0, 13);
        Check.due("flap from below, with what lies below", desk.flap(3, 6, false, false, 6, 0, 3), 8 + 2);
        desk.undo();
        Check.due("flap from above, without what lies below", desk.flap(3, 5, false, true, 6, 1, 3), 2);
    }

    /** "of those that come to one CELL the order is turned round" */
    private static void orderIsTurnedRound() {
        FoldDesk desk = Check.desk(4);
        desk.fold(0, 2, true, true);
        Check.layers(desk, 1, 0, 0, 4, 8);
        desk.fold(0, 1, true, true);
        Check.layers(desk, 0, 0, 0, 0, 12, 8, 4);
        desk.undo();
        desk.fold(0, 1, true, false);
        Check.layers(desk, 0, 0, 0, 8, 4, 0, 12);
        desk.undo();
        desk.turn();
        Check.layers(desk, 6, 0, 0, 8, 4);
    }

    // ---- TURN: "the table's x becomes 7 less x (1 and 3 change places)"; QUARTER: "(x, y) goes to (7 less y, x), q to q
    // and 1 (of 3 to 0)"

    /** Brings a pile to the table's lower left corner. */
    private static void cornerOfTheTable(FoldDesk desk) {
        desk.sheet(8);
        for (int kind = 0; kind < 2; kind++) {
            desk.fold(kind, 1, true, true);
            desk.fold(kind, 0, true, true);
            desk.fold(kind, -4, true, true);
        }
    }

    private static void cornerHas(FoldDesk desk, int x, int y, int q0, int q1, int q2, int q3) {
        int[] want = {q0, q1, q2, q3};
        for (int q = 0; q < 4; q++) {
            Check.due("cell(" + x + ", " + y + ", " + q + ", 3)", desk.cell(x, y, q, 3), want[q]);
            Check.due("cell(" + x + ", " + y + ", " + q + ", 0)", desk.cell(x, y, q, 0), 9);
        }
    }

    private static void turnsAcrossTheTable() {
        FoldDesk desk = new FoldDesk();
        cornerOfTheTable(desk);
        int[] low = new int[4];
        int[] top = new int[4];
        for (int q = 0; q < 4; q++) {
            low[q] = desk.cell(-8, -8, q, 3);
            top[q] = desk.cell(-8, -8, q, 1);
        }
        Check.due("turn()", desk.turn(), 256);
        cornerHas(desk, 15, -8, top[0], top[3], top[2], top[1]);
        Check.due("cell(-8, -8, 0, 0)", desk.cell(-8, -8, 0, 0), 0);
        Check.due("turn()", desk.turn(), 256);
        cornerHas(desk, -8, -8, low[0], low[1], low[2], low[3]);
        // Turned, and brought back to that corner by quarters, the lowest ones lie there with their backs up.
        desk.turn();
        desk.quarter();
        desk.quarter();
        desk.quarter();
        cornerHas(desk, -8, -8, top[3], top[2], top[1], top[0]);
        for (int q = 0; q < 4; q++) {
            Check.lies(desk, top[q], -8, -8, 3 - q, 0, 0);
        }
        desk.sheet(8);
        desk.turn();
        Check.lies(desk, 0, 7, 0, 0, 0, 0);
        Check.lies(desk, 1, 7, 0, 3, 0, 0);
        Check.lies(desk, 255, 0, 7, 1, 0, 0);
    }

    private static void quartersAcrossTheTable() {
        FoldDesk desk = new FoldDesk();
        cornerOfTheTable(desk);
        int[] low = new int[4];
        for (int q = 0; q < 4; q++) {
            low[q] = desk.cell(-8, -8, q, 3);
        }
        desk.quarter();
        cornerHas(desk, 15, -8, low[3], low[0], low[1], low[2]);
        desk.quarter();
        cornerHas(desk, 15, 15, low[2], low[3], low[0], low[1]);
        desk.quarter();
        cornerHas(desk, -8, 15, low[1], low[2], low[3], low[0]);
        desk.quarter();
        cornerHas(desk, -8, -8, low[0], low[1], low[2], low[3]);
        desk.sheet(2);
        desk.quarter();
        Check.lies(desk, 3, 7, 0, 0, 1, 0);
        Check.lies(desk, 2, 7, 0, 3, 1, 0);
        Check.lies(desk, 15, 6, 1, 0, 1, 0);
    }

    /** OPEN: "all that are not GONE lie as at first" */
    private static void openLeavesTheGone() {
        FoldDesk desk = Check.desk(2);
        desk.fold(0, 1, true, false);
        desk.punch(0, 0, 3);
        desk.turn();
        desk.quarter();
        Check.due("open()", desk.open(), 14);
        for (int f = 0; f < 16; f++) {
            if (f == 3 || f == 5) {
                Check.due("triangle(" + f + ", 0)", desk.triangle(f, 0), 0);
            } else {
                Check.lies(desk, f, f / 4 % 2, f / 8, f % 4, 1, 0);
            }
        }
        Check.due("open() again", desk.open(), 14);
        Check.due("count(2)", desk.count(2), 6);
    }

    // ---- Promise 10: "how many entries THE LOG has; NONE when it has none"

    private static void undoOfAnEmptyLog() {
        Check.refused("undo() of a new object", d -> { }, FoldDesk::undo, NONE);
        Check.refused("undo() behind sheet()", d -> {
            Check.used(d);
            d.sheet(3);
        }, FoldDesk::undo, NONE);
        FoldDesk desk = Check.desk(2);
        desk.turn();
        Check.due("undo() of the last entry", desk.undo(), 0);
        Check.due("undo()", desk.undo(), NONE);
    }

    private static void undoOfEachAct() {
        String[] names = {"fold", "flap", "cut", "punch", "turn", "quarter", "open"};
        Told.Call[] acts = {d -> d.fold(2, 1, false, false), d -> d.flap(1, 1, false, true, 0, 0, 0), d -> d.cut(2, 1, false),
            d -> d.punch(0, 0, 0), FoldDesk::turn, FoldDesk::quarter, FoldDesk::open};
        for (int i = 0; i < acts.length; i++) {
            Told.Call act = acts[i];
            FoldDesk desk = new FoldDesk();
            Check.used(desk);
            Check.due(names[i] + " is done", act.on(desk) > 0 ? 1 : 0, 1);
            Check.due("count(2)", desk.count(2), 3);
            Check.due("undo() of " + names[i], desk.undo(), 2);
            Check.unchanged(names[i] + " and undo()", Check::used, d -> {
                act.on(d);
                return d.undo();
            });
        }
    }

    private static void undoOfAFullLog() {
        FoldDesk desk = new FoldDesk();
        filled(desk, 300);
        for (int left = 299; left >= 0; left--) {
            Check.due("undo()", desk.undo(), left);
        }
        Check.due("undo()", desk.undo(), NONE);
        for (int f = 0; f < 16; f++) {
            Check.lies(desk, f, f / 4 % 2, f / 8, f % 4, 1, 0);
        }
    }

    private static void undoPassesByWhatWasRefused() {
        FoldDesk desk = Check.desk(2);
        desk.fold(0, 1, true, true);
        desk.punch(0, 0, 0);
        Check.due("fold(9, 0, true, true)", desk.fold(9, 0, true, true), RANGE);
        Check.due("punch(0, 0, 0)", desk.punch(0, 0, 0), NONE);
        Check.due("cut(0, 1, false)", desk.cut(0, 1, false), STAYS);
        Check.due("undo()", desk.undo(), 1);
        Check.layers(desk, 0, 0, 0, 0, 4);
        Check.due("undo()", desk.undo(), 0);
        Check.layers(desk, 1, 0, 0, 4);
    }

    // ---- Promise 27: "Of entry i of THE LOG, from 0 on .. NONE when there is none such, or for another what."

    private static void logEntriesEndWithTheLog() {
        FoldDesk desk = new FoldDesk();
        filled(desk, 300);
        Check.due("log(0, 0)", desk.log(0, 0), 1);
        Check.due("log(299, 0)", desk.log(299, 0), 5);
        int[] wrong = {-1, 300, 301, LEAST, GREATEST};
        for (int i : wrong) {
            for (int what = 0; what < 9; what++) {
                Check.due("log(" + i + ", " + what + ")", desk.log(i, what), NONE);
            }
        }
        desk.undo();
        Check.due("log(298, 0)", desk.log(298, 0), 5);
        Check.due("log(299, 0)", desk.log(299, 0), NONE);
        desk.sheet(2);
        Check.due("log(0, 0)", desk.log(0, 0), NONE);
    }

    private static void logWhatIsFromNoughtToEight() {
        FoldDesk desk = Check.desk(2);
        desk.fold(3, -1, false, true);
        Check.entry(desk, 0, 1, 3, -1, 0, 1, 0, 0, 0, 2);
        int[] wrong = {-1, 9, LEAST, GREATEST};
        for (int what : wrong) {
            Check.due("log(0, " + what + ")", desk.log(0, what), NONE);
            Check.due("log(1, " + what + ")", desk.log(1, what), NONE);
        }
    }

    /** "its numbers in the order of the call (true 1, false 0; 0 where it has fewer)" */
    private static void logNumbersOfEachAct() {
        FoldDesk desk = Check.desk(2);
        desk.flap(2, 3, true, false, 1, 1, 2);
        desk.flap(2, 1, false, true, 0, 0, 3);
        desk.fold(0, 1, true, false);
        desk.cut(1, 1, true);
        desk.punch(0, 0, 3);
        desk.turn();
        desk.quarter();
        desk.open();
        Check.entry(desk, 0, 2, 2, 3, 1, 0, 1, 1, 2, 2);
        Check.entry(desk, 1, 2, 2, 1, 0, 1, 0, 0, 3, 2);
        Check.entry(desk, 2, 1, 0, 1, 1, 0, 0, 0, 0, 8);
        Check.entry(desk, 3, 3, 1, 1, 1, 0, 0, 0, 0, desk.log(3, 8));
        Check.entry(desk, 4, 4, 0, 0, 3, 0, 0, 0, 0, desk.log(4, 8));
        int left = desk.count(1);
        Check.entry(desk, 5, 5, 0, 0, 0, 0, 0, 0, 0, left);
        Check.entry(desk, 6, 6, 0, 0, 0, 0, 0, 0, 0, left);
        Check.entry(desk, 7, 7, 0, 0, 0, 0, 0, 0, 0, left);
        Check.due("all are counted", desk.log(3, 8) + desk.log(4, 8) + left, 16);
    }

    /** "0 where it has fewer": nothing is left there of an earlier call. */
    private static void logNumbersOfShorterCalls() {
        Told.Call[] acts = {d -> d.fold(0, 1, true, true), d -> d.cut(0, 1, true), d -> d.punch(0, 0, 0), FoldDesk::turn,
            FoldDesk::quarter, FoldDesk::open};
        int[][] want = {{1, 0, 1, 1, 1, 0, 0, 0, 8}, {3, 0, 1, 1, 0, 0, 0, 0, 8}, {4, 0, 0, 0, 0, 0, 0, 0, 1},
            {5, 0, 0, 0, 0, 0, 0, 0, 16}, {6, 0, 0, 0, 0, 0, 0, 0, 16}, {7, 0, 0, 0, 0, 0, 0, 0, 16}};
        for (int i = 0; i < acts.length; i++) {
            FoldDesk desk = Check.desk(2);
            Check.due("flap of nothing", desk.flap(3, 9, true, true, 5, 6, 3), NONE);
            acts[i].on(desk);
            Check.entry(desk, 0, want[i]);
        }
    }
}
