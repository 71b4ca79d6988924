/** Promises 3 to 10 and 27: the acts, their refusals in their order, undo and the log. */
public final class ActTest {
    private static final int NONE = FoldDesk.NONE;
    private static final int RANGE = FoldDesk.RANGE;
    private static final int STAYS = FoldDesk.STAYS;
    private static final int BEYOND = FoldDesk.BEYOND;
    private static final int FULL = FoldDesk.FULL;

    public static void main(String[] args) {
        foldOver();
        foldUnder();
        foldAllKinds();
        foldRefused();
        flapTopLayer();
        flapUnder();
        flapCreaseOnLine();
        flapTakesWhatLiesAbove();
        flapOfTwoPieces();
        flapRefused();
        cuts();
        punches();
        turns();
        quarters();
        opens();
        undone();
        logged();
        full();
        thickest();
        tableCorners();
        Check.end();
    }

    private static void foldOver() {
        FoldDesk desk = Check.desk(2);
        Check.due("fold(0, 1, true, true)", desk.fold(0, 1, true, true), 8);
        Check.layers(desk, 0, 0, 1, 1, 7);
        Check.due("fold(1, 1, false, true)", desk.fold(1, 1, false, true), 8);
        Check.layers(desk, 0, 1, 0, 8, 12, 6, 2);
        Check.lies(desk, 6, 0, 1, 0, 1, 2);
        Check.lies(desk, 2, 0, 1, 0, 0, 3);
    }

    private static void foldUnder() {
        FoldDesk desk = Check.desk(2);
        Check.due("fold(0, 1, true, false)", desk.fold(0, 1, true, false), 8);
        Check.layers(desk, 0, 0, 1, 7, 1);
        Check.due("fold(1, 1, false, false)", desk.fold(1, 1, false, false), 8);
        Check.layers(desk, 0, 1, 0, 2, 6, 12, 8);
        Check.lies(desk, 2, 0, 1, 0, 0, 0);
        Check.lies(desk, 6, 0, 1, 0, 1, 1);
    }

    private static void foldAllKinds() {
        FoldDesk desk = Check.desk(2);
        Check.due("fold(3, 0, false, true)", desk.fold(3, 0, false, true), 8);
        Check.layers(desk, 0, 0, 0, 0, 3);
        Check.layers(desk, 0, 0, 1, 1, 2);
        Check.layers(desk, 1, 0, 2, 6, 9);
        Check.due("fold(2, 2, true, false)", desk.fold(2, 2, true, false), 8);
        Check.layers(desk, 1, 0, 0, 10, 5, 4, 11);
        Check.due("undo()", desk.undo(), 1);
        Check.due("fold(2, 2, false, false)", desk.fold(2, 2, false, false), 8);
        Check.layers(desk, 1, 0, 2, 8, 7, 6, 9);
        Check.layers(desk, 1, 1, 1, 3, 0, 13, 14);
        desk.sheet(2);
        Check.due("fold(1, -1, true, true)", desk.fold(1, -1, true, true), STAYS);
        Check.due("fold(3, 1, true, true)", desk.fold(3, 1, true, true), 2);
        Check.lies(desk, 4, 1, 0, 3, 0, 1);
        Check.lies(desk, 5, 1, 0, 2, 0, 1);
    }

    private static void foldRefused() {
        FoldDesk desk = Check.desk(2);
        int[] kinds = {-1, 4, Integer.MIN_VALUE, Integer.MAX_VALUE};
        for (int kind : kinds) {
            Check.due("fold(" + kind + ", 1, true, true)", desk.fold(kind, 1, true, true), RANGE);
        }
        int[] lines = {-33, 33, Integer.MIN_VALUE, Integer.MAX_VALUE};
        for (int c : lines) {
            for (int kind = 0; kind < 4; kind++) {
                Check.due("fold(" + kind + ", " + c + ", true, true)", desk.fold(kind, c, true, true), RANGE);
            }
        }
        for (int kind = 0; kind < 4; kind++) {
            Check.due("fold(" + kind + ", 32, true, true)", desk.fold(kind, 32, true, true), NONE);
            Check.due("fold(" + kind + ", 32, false, true)", desk.fold(kind, 32, false, true), STAYS);
            Check.due("fold(" + kind + ", -32, true, false)", desk.fold(kind, -32, true, false), STAYS);
            Check.due("fold(" + kind + ", -32, false, false)", desk.fold(kind, -32, false, false), NONE);
        }
        Check.due("fold(0, 2, true, true)", desk.fold(0, 2, true, true), NONE);
        Check.due("fold(0, 0, true, true)", desk.fold(0, 0, true, true), STAYS);
        Check.due("count(2)", desk.count(2), 0);
        beyond();
    }

    /** Folds that end at the table's edge are done, those beyond it are not. */
    private static void beyond() {
        FoldDesk desk = Check.desk(8);
        Check.due("fold(0, 1, true, true)", desk.fold(0, 1, true, true), 224);
        Check.due("fold(0, -4, true, true)", desk.fold(0, -4, true, true), BEYOND);
        Check.due("fold(0, 0, true, true)", desk.fold(0, 0, true, true), 64);
        Check.due("fold(0, -4, true, false)", desk.fold(0, -4, true, false), 192);
        Check.due("view(4)", desk.view(4), -8);
        desk.sheet(8);
        int[] lines = {1, 7, 8, 12};
        for (int c : lines) {
            Check.due("fold(1, " + c + ", false, true)", desk.fold(1, c, false, true) > 0 ? 1 : 0, 1);
        }
        Check.due("view(7)", desk.view(7), 15);
        desk.undo();
        Check.due("view(7)", desk.view(7), 12);
        Check.due("fold(3, -16, true, true)", desk.fold(3, -16, true, true), STAYS);
        Check.due("fold(3, -10, true, true)", desk.fold(3, -10, true, true), BEYOND);
        Check.due("fold(2, 8, true, true)", desk.fold(2, 8, true, true), STAYS);
    }

    private static void flapTopLayer() {
        FoldDesk desk = Check.desk(2);
        desk.fold(0, 1, true, true);
        desk.fold(1, 1, true, true);
        // The top layer alone is free to go back over the line x = 1: the one below it hangs on the fold y = 1.
        Check.due("flap(1, 1, false, true, 0, 0, 0)", desk.flap(1, 1, false, true, 0, 0, 0), 8);
        Check.layers(desk, 0, 0, 0, 0, 4);
        Check.layers(desk, 0, 1, 2, 10, 14);
        desk.undo();
        Check.due("flap(0, 1, false, true, 0, 0, 0)", desk.flap(0, 1, false, true, 0, 0, 0), STAYS);
    }

    private static void flapUnder() {
        FoldDesk desk = Check.desk(2);
        desk.fold(0, 1, true, false);
        Check.due("flap(0, 1, false, false, 0, 1, 3)", desk.flap(0, 1, false, false, 0, 1, 3), 8);
        Check.lies(desk, 13, 1, 1, 1, 1, 0);
        Check.lies(desk, 11, 0, 1, 3, 1, 0);
        desk.undo();
        // From the top, the paper that lay still goes over, and its crease stays where it is.
        Check.due("flap(0, 1, false, true, 0, 1, 3)", desk.flap(0, 1, false, true, 0, 1, 3), 8);
        Check.lies(desk, 11, 1, 1, 1, 0, 0);
        Check.lies(desk, 13, 0, 1, 3, 0, 0);
        Check.due("side(1, 0)", desk.side(1, 0), 0);
        desk.undo();
        Check.due("fold(0, 0, true, false)", desk.fold(0, 0, true, false), STAYS);
        Check.due("fold(1, 1, true, false)", desk.fold(1, 1, true, false), 8);
        Check.layers(desk, 0, 0, 0, 10, 14, 4, 0);
        Check.due("flap(1, 1, false, false, 0, 0, 0)", desk.flap(1, 1, false, false, 0, 0, 0), 8);
        Check.layers(desk, 0, 0, 0, 4, 0);
        Check.layers(desk, 0, 1, 2, 14, 10);
    }

    private static void flapCreaseOnLine() {
        FoldDesk desk = Check.desk(2);
        desk.fold(3, 0, false, true);
        // The crease is on the diagonal x - y = 0: along it the upper half goes alone, along others with all.
        Check.due("flap(3, 0, true, true, 1, 0, 1)", desk.flap(3, 0, true, true, 1, 0, 1), 8);
        Check.due("view(1)", desk.view(1), 1);
        Check.due("view(2)", desk.view(2), 16);
        desk.undo();
        Check.due("flap(3, -1, true, true, 1, 0, 1)", desk.flap(3, -1, true, true, 1, 0, 1), STAYS);
        Check.due("flap(2, 1, false, true, 0, 0, 0)", desk.flap(2, 1, false, true, 0, 0, 0), 2);
        desk.undo();
        Check.due("flap(2, 3, false, true, 0, 0, 0)", desk.flap(2, 3, false, true, 0, 0, 0), 14);
        boolean[] both = {true, false};
        for (boolean over : both) {
            desk.sheet(2);
            desk.fold(2, 2, true, over);
            Check.due("flap(2, 1, true, over, 0, 0, 1)", desk.flap(2, 1, true, over, 0, 0, 1), 12);
            desk.undo();
            Check.due("flap(2, 2, false, over, 0, 0, 0)", desk.flap(2, 2, false, over, 0, 0, 0), 8);
            Check.due("view(1)", desk.view(1), 1);
            Check.due("view(2)", desk.view(2), 16);
        }
    }

    private static void flapTakesWhatLiesAbove() {
        FoldDesk desk = Check.desk(4);
        desk.fold(0, 3, true, true);
        Check.layers(desk, 2, 0, 0, 8, 12);
        desk.fold(0, 1, false, true);
        Check.layers(desk, 1, 0, 0, 4, 0);
        // What lies in column 2 hangs on column 1: the lowest takes all of its side with it.
        Check.due("flap(0, 2, false, false, 1, 0, 0)", desk.flap(0, 2, false, false, 1, 0, 0), 32);
        Check.layers(desk, 2, 0, 0, 0, 4, 8, 12);
        desk.undo();
        Check.due("flap(0, 2, false, true, 1, 0, 0)", desk.flap(0, 2, false, true, 1, 0, 0), 32);
        Check.layers(desk, 2, 0, 0, 8, 12, 0, 4);
        desk.undo();
        Check.due("flap(0, 1, true, true, 1, 0, 0)", desk.flap(0, 1, true, true, 1, 0, 0), 16);
        Check.layers(desk, 0, 0, 0, 0);
        Check.due("view(1)", desk.view(1), 2);
    }

    /** Two pieces, so that some of the upper one go along only because they lie above. */
    private static void flapOfTwoPieces() {
        FoldDesk desk = Check.desk(4);
        desk.fold(0, 2, true, true);
        desk.cut(0, 1, true);
        Check.due("flap(1, 2, false, true, 0, 0, 0)", desk.flap(1, 2, false, true, 0, 0, 0), 8);
        Check.layers(desk, 0, 2, 2, 34, 46, 28);
        Check.due("flap(1, 3, false, true, 0, 0, 0)", desk.flap(1, 3, false, true, 0, 0, 0), 20);
        Check.layers(desk, 0, 3, 0, 48, 60, 14, 28, 46, 34);
        desk.undo();
        desk.turn();
        Check.layers(desk, 7, 2, 2, 28, 46, 34);
        Check.due("flap(1, 3, false, false, 7, 0, 0)", desk.flap(1, 3, false, false, 7, 0, 0), 20);
        Check.layers(desk, 7, 3, 0, 34, 46, 28, 14, 60, 48);
        desk.undo();
        Check.due("flap(1, 3, false, true, 7, 0, 0)", desk.flap(1, 3, false, true, 7, 0, 0), 12);
        Check.layers(desk, 7, 3, 0, 14, 60, 48, 34);
        Check.layers(desk, 7, 2, 2, 28, 46);
    }

    private static void flapRefused() {
        FoldDesk desk = Check.desk(2);
        desk.fold(0, 1, true, true);
        int[][] lines = {{-1, 0}, {4, 0}, {0, -33}, {0, 33}};
        for (int[] line : lines) {
            Check.due("flap of no line", desk.flap(line[0], line[1], true, true, 0, 0, 0), RANGE);
        }
        int[][] cells = {{-9, 0, 0}, {16, 0, 0}, {0, -9, 0}, {0, 16, 0}, {0, 0, -1}, {0, 0, 4}};
        for (int[] cell : cells) {
            Check.due("flap of no cell", desk.flap(0, 1, false, true, cell[0], cell[1], cell[2]), RANGE);
        }
        Check.due("flap of an empty cell", desk.flap(0, 1, true, true, 1, 0, 0), NONE);
        Check.due("flap of the other side", desk.flap(0, 1, true, true, 0, 0, 0), NONE);
        Check.due("flap of the other side", desk.flap(0, 0, false, true, 0, 0, 0), NONE);
        Check.due("flap of all", desk.flap(1, 0, true, true, 0, 0, 0), STAYS);
        Check.due("count(2)", desk.count(2), 1);
        desk.sheet(8);
        Check.due("fold(0, 1, true, true)", desk.fold(0, 1, true, true), 224);
        Check.due("flap beyond", desk.flap(0, -4, true, true, 0, 0, 0), BEYOND);
        Check.due("fold beyond", desk.fold(0, -4, true, true), BEYOND);
        Check.due("fold up to the edge", desk.fold(0, -3, true, true), 160);
        Check.due("view(4)", desk.view(4), -7);
        Check.due("count(2)", desk.count(2), 2);
    }

    private static void cuts() {
        FoldDesk desk = Check.desk(4);
        Check.due("cut(4, 0, true)", desk.cut(4, 0, true), RANGE);
        Check.due("cut(-1, 0, true)", desk.cut(-1, 0, true), RANGE);
        Check.due("cut(0, 33, true)", desk.cut(0, 33, true), RANGE);
        Check.due("cut(0, -33, true)", desk.cut(0, -33, true), RANGE);
        Check.due("cut(0, 4, true)", desk.cut(0, 4, true), NONE);
        Check.due("cut(0, 0, true)", desk.cut(0, 0, true), STAYS);
        Check.due("cut(0, 4, false)", desk.cut(0, 4, false), STAYS);
        desk.fold(0, 2, true, true);
        // The cut goes through both layers, and opened out there is a hole in the middle of each side.
        Check.due("cut(0, 1, false)", desk.cut(0, 1, false), 32);
        Check.due("count(1)", desk.count(1), 32);
        Check.due("triangle(0, 0)", desk.triangle(0, 0), 0);
        Check.due("triangle(12, 0)", desk.triangle(12, 0), 0);
        Check.due("cell(0, 0, 0, 0)", desk.cell(0, 0, 0, 0), 0);
        Check.due("cut(2, 2, false)", desk.cut(2, 2, false), 4);
        Check.due("cell(1, 0, 0, 0)", desk.cell(1, 0, 0, 0), 0);
        Check.layers(desk, 1, 0, 1, 5, 11);
        Check.due("undo()", desk.undo(), 2);
        Check.due("undo()", desk.undo(), 1);
        Check.due("count(1)", desk.count(1), 64);
    }

    private static void punches() {
        FoldDesk desk = Check.desk(2);
        int[][] wrong = {{-9, 0, 0}, {16, 0, 0}, {0, -9, 0}, {0, 16, 0}, {0, 0, -1}, {0, 0, 4}};
        for (int[] cell : wrong) {
            Check.due("punch of no cell", desk.punch(cell[0], cell[1], cell[2]), RANGE);
        }
        Check.due("punch(2, 0, 0)", desk.punch(2, 0, 0), NONE);
        desk.fold(0, 1, true, true);
        desk.fold(1, 1, true, true);
        Check.due("punch(0, 0, 2)", desk.punch(0, 0, 2), 4);
        Check.due("punch(0, 0, 2)", desk.punch(0, 0, 2), NONE);
        int[] gone = {2, 6, 8, 12};
        for (int f : gone) {
            Check.due("triangle(" + f + ", 0)", desk.triangle(f, 0), 0);
        }
        Check.due("open()", desk.open(), 12);
        Check.due("cell(1, 1, 0, 0)", desk.cell(1, 1, 0, 0), 0);
        Check.layers(desk, 1, 1, 1, 13);
        desk.sheet(2);
        for (int f = 0; f < 16; f++) {
            Check.due("punch", desk.punch(f / 4 % 2, f / 8, f % 4), 1);
        }
        Check.due("count(1)", desk.count(1), 0);
        Check.due("fold of nothing", desk.fold(0, 1, true, true), NONE);
        Check.due("flap of nothing", desk.flap(0, 1, false, true, 0, 0, 0), NONE);
        Check.due("cut of nothing", desk.cut(0, 1, true), NONE);
        Check.due("turn of nothing", desk.turn(), NONE);
        Check.due("quarter of nothing", desk.quarter(), NONE);
        Check.due("open of nothing", desk.open(), NONE);
        Check.due("undo()", desk.undo(), 15);
        Check.lies(desk, 15, 1, 1, 3, 1, 0);
    }

    private static void turns() {
        FoldDesk desk = Check.desk(2);
        Check.due("turn()", desk.turn(), 16);
        Check.lies(desk, 0, 7, 0, 0, 0, 0);
        Check.lies(desk, 1, 7, 0, 3, 0, 0);
        Check.lies(desk, 2, 7, 0, 2, 0, 0);
        Check.lies(desk, 15, 6, 1, 1, 0, 0);
        Check.due("turn()", desk.turn(), 16);
        Check.lies(desk, 1, 0, 0, 1, 1, 0);
        desk.fold(0, 1, true, true);
        desk.punch(0, 0, 2);
        Check.due("turn()", desk.turn(), 14);
        Check.layers(desk, 7, 0, 0, 4, 0);
        Check.lies(desk, 4, 7, 0, 0, 1, 0);
        Check.lies(desk, 0, 7, 0, 0, 0, 1);
        Check.due("side(1, 0)", desk.side(1, 0), 1);
        Check.due("view(2)", desk.view(2), 0);
    }

    private static void quarters() {
        FoldDesk desk = Check.desk(2);
        desk.fold(0, 1, true, true);
        Check.due("quarter()", desk.quarter(), 16);
        Check.layers(desk, 7, 0, 1, 0, 4);
        Check.lies(desk, 3, 7, 0, 0, 1, 0);
        Check.lies(desk, 5, 7, 0, 0, 0, 1);
        Check.lies(desk, 8, 6, 0, 1, 1, 0);
        Check.due("quarter()", desk.quarter(), 16);
        Check.lies(desk, 0, 7, 7, 2, 1, 0);
        Check.due("quarter()", desk.quarter(), 16);
        Check.lies(desk, 0, 0, 7, 3, 1, 0);
        Check.due("quarter()", desk.quarter(), 16);
        Check.lies(desk, 0, 0, 0, 0, 1, 0);
        Check.lies(desk, 4, 0, 0, 0, 0, 1);
    }

    private static void opens() {
        FoldDesk desk = Check.desk(2);
        Check.due("open()", desk.open(), 16);
        Check.due("count(2)", desk.count(2), 1);
        desk.fold(2, 2, true, false);
        desk.turn();
        desk.punch(7, 0, 0);
        Check.due("open()", desk.open(), 14);
        for (int f = 0; f < 16; f++) {
            if (desk.triangle(f, 0) == 1) {
                Check.lies(desk, f, f / 4 % 2, f / 8, f % 4, 1, 0);
            }
        }
        Check.due("triangle(0, 0)", desk.triangle(0, 0), 0);
        Check.due("triangle(13, 0)", desk.triangle(13, 0), 0);
        Check.due("undo()", desk.undo(), 4);
        Check.due("view(1)", desk.view(1), 2);
    }

    private static void undone() {
        FoldDesk desk = Check.desk(2);
        Check.due("undo()", desk.undo(), NONE);
        desk.fold(0, 1, true, true);
        desk.flap(0, 1, false, true, 0, 0, 0);
        desk.cut(1, 1, true);
        desk.turn();
        Check.due("undo()", desk.undo(), 3);
        Check.lies(desk, 5, 1, 0, 1, 1, 0);
        Check.due("count(1)", desk.count(1), 8);
        Check.due("undo()", desk.undo(), 2);
        Check.due("count(1)", desk.count(1), 16);
        Check.due("undo()", desk.undo(), 1);
        Check.lies(desk, 5, 0, 0, 3, 0, 1);
        desk.quarter();
        Check.entry(desk, 1, 6, 0, 0, 0, 0, 0, 0, 0, 16);
        Check.due("undo()", desk.undo(), 1);
        Check.due("undo()", desk.undo(), 0);
        Check.due("undo()", desk.undo(), NONE);
        Check.lies(desk, 5, 1, 0, 1, 1, 0);
        Check.due("view(1)", desk.view(1), 1);
    }

    private static void logged() {
        FoldDesk desk = Check.desk(2);
        desk.fold(0, 1, true, true);
        desk.fold(0, 5, true, true);
        desk.flap(0, 1, false, true, 0, 1, 2);
        desk.fold(3, 0, false, false);
        desk.cut(2, 1, false);
        desk.punch(1, 0, 1);
        desk.turn();
        desk.quarter();
        desk.open();
        Check.due("count(2)", desk.count(2), 8);
        Check.entry(desk, 0, 1, 0, 1, 1, 1, 0, 0, 0, 8);
        Check.entry(desk, 1, 2, 0, 1, 0, 1, 0, 1, 2, 8);
        Check.entry(desk, 2, 1, 3, 0, 0, 0, 0, 0, 0, 8);
        Check.entry(desk, 3, 3, 2, 1, 0, 0, 0, 0, 0, 2);
        Check.entry(desk, 4, 4, 1, 0, 1, 0, 0, 0, 0, 2);
        Check.entry(desk, 5, 5, 0, 0, 0, 0, 0, 0, 0, 12);
        Check.entry(desk, 6, 6, 0, 0, 0, 0, 0, 0, 0, 12);
        Check.entry(desk, 7, 7, 0, 0, 0, 0, 0, 0, 0, 12);
        Check.entry(desk, 8, NONE, NONE, NONE, NONE, NONE, NONE, NONE, NONE, NONE);
        Check.entry(desk, -1, NONE, NONE, NONE, NONE, NONE, NONE, NONE, NONE, NONE);
        Check.due("log(0, 9)", desk.log(0, 9), NONE);
        Check.due("log(0, -1)", desk.log(0, -1), NONE);
        Check.due("log(max, 0)", desk.log(Integer.MAX_VALUE, 0), NONE);
        desk.sheet(2);
        desk.fold(1, -3, true, true);
        desk.fold(1, 1, false, false);
        Check.entry(desk, 0, 1, 1, 1, 0, 0, 0, 0, 0, 8);
        desk.undo();
        Check.due("log(0, 0)", desk.log(0, 0), NONE);
    }

    private static void full() {
        FoldDesk desk = Check.desk(8);
        desk.fold(0, 1, true, true);
        for (int i = 1; i < 300; i++) {
            Check.due("quarter()", desk.quarter(), 256);
        }
        Check.due("count(2)", desk.count(2), 300);
        Check.entry(desk, 299, 6, 0, 0, 0, 0, 0, 0, 0, 256);
        Check.due("turn()", desk.turn(), FULL);
        Check.due("quarter()", desk.quarter(), FULL);
        Check.due("open()", desk.open(), FULL);
        Check.due("fold(4, 0, true, true)", desk.fold(4, 0, true, true), RANGE);
        Check.due("fold(0, -20, false, true)", desk.fold(0, -20, false, true), NONE);
        Check.due("fold(0, -20, true, true)", desk.fold(0, -20, true, true), STAYS);
        int x = desk.triangle(0, 1);
        int y = desk.triangle(0, 2);
        int q = desk.triangle(0, 3);
        Check.due("punch()", desk.punch(x, y, q), FULL);
        Check.due("punch(16, 0, 0)", desk.punch(16, 0, 0), RANGE);
        Check.due("cut()", desk.cut(0, desk.view(4) + 1, false), FULL);
        Check.due("count(1)", desk.count(1), 256);
        Check.due("undo()", desk.undo(), 299);
        Check.due("turn()", desk.turn(), 256);
    }

    /** The largest paper comes to lie on one cell, and out of it again. */
    private static void thickest() {
        FoldDesk desk = Check.desk(8);
        int[][] folds = {{0, 4}, {0, 2}, {0, 1}, {1, 4}, {1, 2}, {1, 1}, {3, 0}, {2, 1}};
        for (int i = 0; i < folds.length; i++) {
            boolean high = folds[i][0] != 3;
            Check.due("fold " + i, desk.fold(folds[i][0], folds[i][1], high, i % 2 == 0), 128);
        }
        Check.due("view(0)", desk.view(0), 1);
        Check.due("view(1)", desk.view(1), 256);
        Check.due("cell(0, 0, 0, 0)", desk.cell(0, 0, 0, 0), 256);
        Check.due("layer(0, 0, 0, 256)", desk.layer(0, 0, 0, 256), NONE);
        for (int k = 0; k < 256; k += 3) {
            int f = desk.layer(0, 0, 0, k);
            Check.due("triangle(" + f + ", 5)", desk.triangle(f, 5), k);
        }
        int top = desk.layer(0, 0, 0, 255);
        Check.due("turn()", desk.turn(), 256);
        Check.due("layer(7, 0, 0, 0)", desk.layer(7, 0, 0, 0), top);
        Check.due("fold(0, 7, true, true)", desk.fold(0, 7, true, true), STAYS);
        Check.due("thick 256", Text.run(desk, "thick 256;"), 0);
        Check.due("thick 255", Text.run(desk, "thick 255;"), NONE);
        Check.due("undo()", desk.undo(), 8);
        Check.due("undo()", desk.undo(), 7);
        Check.due("view(1)", desk.view(1), 128);
        Check.due("punch(0, 0, 0)", desk.punch(0, 0, 0), 128);
        Check.due("open()", desk.open(), 128);
        Check.due("view(1)", desk.view(1), 1);
    }

    private static void tableCorners() {
        FoldDesk desk = Check.desk(8);
        for (int kind = 0; kind < 2; kind++) {
            desk.fold(kind, 1, true, true);
            desk.fold(kind, 0, true, true);
            desk.fold(kind, -4, true, true);
        }
        corner(desk, -8, 9);
        Check.due("punch(-8, -8, 0)", desk.punch(-8, -8, 0), 9);
        desk = Check.desk(8);
        for (int kind = 0; kind < 2; kind++) {
            desk.fold(kind, 1, false, true);
            desk.fold(kind, 7, false, false);
            desk.fold(kind, 8, false, true);
            desk.fold(kind, 12, false, false);
        }
        corner(desk, 15, desk.cell(15, 15, 1, 0));
        Check.due("flap(2, 31, true, true, 15, 15, 2)", desk.flap(2, 31, true, true, 15, 15, 2) > 0 ? 1 : 0, 1);
        Check.due("cell(15, 15, 2, 0)", desk.cell(15, 15, 2, 0), 0);
    }

    private static void corner(FoldDesk desk, int at, int height) {
        Check.due("there is something in the corner", height > 0 ? 1 : 0, 1);
        for (int q = 0; q < 4; q++) {
            Check.due("cell in the corner", desk.cell(at, at, q, 0), height);
            for (int k = 0; k < height; k++) {
                int f = desk.layer(at, at, q, k);
                Check.lies(desk, f, at, at, q, desk.triangle(f, 4), k);
            }
            Check.due("the top one", desk.cell(at, at, q, 1), desk.layer(at, at, q, height - 1));
        }
    }
}
