/** Promises 18 to 22: the view, shapes and the search. */
public final class ShapeTest {
    private static final int NONE = FoldDesk.NONE;
    private static final int RANGE = FoldDesk.RANGE;
    private static final int FULL = FoldDesk.FULL;

    public static void main(String[] args) {
        views();
        noView();
        keeps();
        quarters();
        pushes();
        facesMatter();
        emptyShape();
        searchRefused();
        searchOrder();
        oneCell();
        searchOfTwo();
        searchOfThree();
        searchWithoutWay();
        searchLeavesAll();
        searchBeyond();
        Check.end();
    }

    private static void view(FoldDesk desk, int... want) {
        for (int what = 0; what < want.length; what++) {
            Check.due("view(" + what + ")", desk.view(what), want[what]);
        }
        Check.due("view(-1)", desk.view(-1), NONE);
        Check.due("view(8)", desk.view(8), NONE);
    }

    private static void views() {
        FoldDesk desk = new FoldDesk();
        view(desk, 64, 1, 64, 0, 0, 3, 0, 3);
        desk.fold(0, 3, true, true);
        view(desk, 48, 2, 32, 16, 0, 2, 0, 3);
        desk.fold(1, 1, false, false);
        view(desk, 36, 4, 24, 12, 0, 2, 1, 3);
        desk.turn();
        view(desk, 36, 4, 8, 28, 5, 7, 1, 3);
        desk.open();
        desk.fold(0, 1, true, true);
        view(desk, 48, 2, 0, 48, -2, 0, 0, 3);
        desk.fold(3, -3, true, false);
        Check.due("view(4)", desk.view(4), -3);
        Check.due("view(7)", desk.view(7), 3);
    }

    private static void punchAll(FoldDesk desk) {
        for (int f = 0; f < 16; f++) {
            desk.punch(f / 4 % 2, f / 8, f % 4);
        }
    }

    private static void noView() {
        FoldDesk desk = Check.desk(2);
        punchAll(desk);
        view(desk, 0, 0, 0, 0, NONE, NONE, NONE, NONE);
    }

    private static void keeps() {
        FoldDesk desk = Check.desk(2);
        int[] wrong = {-1, 6, Integer.MIN_VALUE, Integer.MAX_VALUE};
        for (int k : wrong) {
            Check.due("keep(" + k + ")", desk.keep(k), RANGE);
            Check.due("alike(" + k + ")", desk.alike(k), RANGE);
        }
        Check.due("count(5)", desk.count(5), 0);
        Check.due("keep(5)", desk.keep(5), 16);
        Check.due("count(5)", desk.count(5), 1);
        Check.due("alike(5)", desk.alike(5), 0);
        Check.due("alike(4)", desk.alike(4), RANGE);
        desk.fold(0, 1, true, true);
        Check.due("alike(5)", desk.alike(5), NONE);
        Check.due("keep(5)", desk.keep(5), 8);
        Check.due("keep(0)", desk.keep(0), 8);
        Check.due("count(5)", desk.count(5), 2);
        Check.due("alike(5)", desk.alike(5), 0);
        desk.undo();
        Check.due("alike(5)", desk.alike(5), NONE);
        for (int k = 0; k < 6; k++) {
            Check.due("keep(" + k + ")", desk.keep(k), 16);
            Check.due("alike(" + k + ")", desk.alike(k), 0);
        }
        Check.due("count(5)", desk.count(5), 6);
        Check.due("count(2)", desk.count(2), 0);
        // Nothing is left of the shape that was kept there before.
        desk.punch(0, 0, 0);
        Check.due("keep(1)", desk.keep(1), 15);
        desk.undo();
        desk.punch(0, 0, 1);
        Check.due("alike(1)", desk.alike(1), NONE);
    }

    private static void quarters() {
        FoldDesk desk = Check.desk(2);
        desk.punch(0, 0, 0);
        desk.keep(0);
        for (int r = 3; r >= 0; r--) {
            desk.quarter();
            Check.due("alike(0)", desk.alike(0), r);
        }
        desk.sheet(4);
        desk.fold(0, 2, true, true);
        desk.keep(1);
        desk.quarter();
        // A strip is its own image by two quarters, so the least number is told.
        Check.due("alike(1)", desk.alike(1), 1);
        desk.quarter();
        Check.due("alike(1)", desk.alike(1), 0);
    }

    private static void pushes() {
        FoldDesk desk = Check.desk(2);
        desk.fold(0, 1, true, true);
        desk.keep(0);
        desk.undo();
        desk.fold(0, 1, false, true);
        Check.due("alike(0)", desk.alike(0), 0);
        desk.undo();
        desk.fold(1, 1, false, true);
        Check.due("alike(0)", desk.alike(0), 1);
        desk.sheet(3);
        desk.cut(0, 1, true);
        desk.keep(0);
        desk.sheet(3);
        desk.cut(0, 2, false);
        Check.due("alike(0)", desk.alike(0), 0);
        desk.punch(2, 1, 1);
        Check.due("alike(0)", desk.alike(0), NONE);
        desk.keep(1);
        desk.sheet(3);
        desk.cut(0, 1, true);
        desk.punch(0, 1, 3);
        Check.due("alike(1)", desk.alike(1), 2);
    }

    private static void facesMatter() {
        FoldDesk desk = Check.desk(2);
        desk.keep(0);
        desk.turn();
        Check.due("alike(0)", desk.alike(0), NONE);
        desk.sheet(4);
        desk.fold(0, 3, true, true);
        desk.keep(0);
        desk.undo();
        desk.fold(0, 1, false, true);
        // As many faces and backs, in another order: by two quarters they are the same.
        Check.due("alike(0)", desk.alike(0), 2);
        desk.undo();
        desk.fold(0, 3, true, false);
        Check.due("alike(0)", desk.alike(0), NONE);
        desk.sheet(3);
        desk.fold(2, 1, false, true);
        desk.keep(0);
        desk.undo();
        desk.fold(3, 2, true, true);
        Check.due("alike(0)", desk.alike(0), 3);
    }

    private static void emptyShape() {
        FoldDesk desk = Check.desk(2);
        desk.keep(0);
        punchAll(desk);
        Check.due("alike(0)", desk.alike(0), NONE);
        Check.due("search(0, 1)", desk.search(0, 1), NONE);
        Check.due("count(3)", desk.count(3), 0);
        Check.due("keep(1)", desk.keep(1), 0);
        Check.due("count(5)", desk.count(5), 2);
        Check.due("alike(1)", desk.alike(1), 0);
        Check.due("search(1, 1)", desk.search(1, 1), 0);
        desk.sheet(2);
        Check.due("alike(1)", desk.alike(1), NONE);
    }

    private static void searchRefused() {
        FoldDesk desk = Check.desk(2);
        desk.keep(0);
        int[][] wrong = {{0, 0}, {0, 4}, {0, -1}, {-1, 1}, {6, 1}, {1, 1}, {0, Integer.MAX_VALUE}, {Integer.MIN_VALUE, 1}};
        for (int[] w : wrong) {
            Check.due("search(" + w[0] + ", " + w[1] + ")", desk.search(w[0], w[1]), RANGE);
        }
        Check.due("search(0, 1)", desk.search(0, 1), 0);
        Check.due("search(0, 3)", desk.search(0, 3), 0);
        Check.due("count(3)", desk.count(3), 0);
        Check.due("found(0, 0)", desk.found(0, 0), NONE);
        desk.fold(0, 1, true, false);
        desk.keep(1);
        desk.undo();
        Check.due("search(1, 3)", desk.search(1, 3), 1);
        way(desk, 0, 0, 1, 0, 0);
        Check.due("search(1, 4)", desk.search(1, 4), RANGE);
        way(desk, 0, 0, 1, 0, 0);
        Check.due("search(2, 1)", desk.search(2, 1), RANGE);
        way(desk, 0, 0, 1, 0, 0);
        Check.due("search(0, 2)", desk.search(0, 2), 0);
        way(desk, 0, NONE, NONE, NONE, NONE);
        Check.due("count(3)", desk.count(3), 0);
    }

    private static void way(FoldDesk desk, int i, int... want) {
        for (int what = 0; what < 4; what++) {
            Check.due("found(" + i + ", " + what + ")", desk.found(i, what), want[what]);
        }
        Check.due("found(" + i + ", 4)", desk.found(i, 4), NONE);
        Check.due("found(" + i + ", -1)", desk.found(i, -1), NONE);
    }

    private static void searchOrder() {
        // Shape, by the fold that makes it; the way that comes first; how many tries that takes.
        int[][] ways = {
            {0, 1, 1, 1, 0, 1, 0, 1, 1},
            {0, 1, 1, 0, 0, 1, 0, 0, 2},
            {1, 1, 0, 1, 0, 1, 0, 1, 1},
            {2, 1, 0, 1, 2, 1, 0, 1, 9},
            {2, 1, 0, 0, 2, 1, 0, 0, 10},
            {2, 2, 1, 1, 2, 2, 0, 1, 13},
            {2, 2, 1, 0, 2, 2, 0, 0, 14},
            {2, 3, 0, 1, 2, 1, 1, 1, 11},
            {2, 3, 0, 0, 2, 1, 1, 0, 12},
            {3, 1, 1, 0, 2, 1, 0, 0, 10},
        };
        FoldDesk desk = Check.desk(2);
        for (int[] w : ways) {
            desk.fold(w[0], w[1], w[2] == 1, w[3] == 1);
            desk.keep(3);
            desk.undo();
            Check.due("search(3, 1)", desk.search(3, 1), 1);
            way(desk, 0, w[4], w[5], w[6], w[7]);
            way(desk, 1, NONE, NONE, NONE, NONE);
            way(desk, -1, NONE, NONE, NONE, NONE);
            Check.due("count(3)", desk.count(3), w[8]);
        }
    }

    /** A single cell is left, and it is looked for in all its quarters. */
    private static void oneCell() {
        FoldDesk desk = Check.desk(2);
        for (int f = 1; f < 16; f++) {
            desk.punch(f / 4 % 2, f / 8, f % 4);
        }
        Check.due("keep(0)", desk.keep(0), 1);
        desk.quarter();
        Check.due("alike(0)", desk.alike(0), 3);
        desk.turn();
        Check.due("alike(0)", desk.alike(0), NONE);
        Check.due("search(0, 3)", desk.search(0, 3), NONE);
        Check.due("count(3)", desk.count(3), 0);
    }

    private static void searchOfTwo() {
        FoldDesk desk = Check.desk(2);
        desk.fold(0, 1, true, true);
        desk.fold(1, 1, true, true);
        desk.keep(0);
        desk.undo();
        desk.undo();
        Check.due("search(0, 1)", desk.search(0, 1), NONE);
        Check.due("count(3)", desk.count(3), 32);
        way(desk, 0, NONE, NONE, NONE, NONE);
        // The first column is folded over, then it has one line of kind 1, and the lower half over makes the square.
        Check.due("search(0, 2)", desk.search(0, 2), 2);
        way(desk, 0, 0, 1, 0, 1);
        way(desk, 1, 1, 1, 0, 1);
        way(desk, 2, NONE, NONE, NONE, NONE);
        Check.due("count(3)", desk.count(3), 34);
        Check.due("search(0, 3)", desk.search(0, 3), 2);
        Check.due("count(3)", desk.count(3), 34);
    }

    private static void searchOfThree() {
        FoldDesk desk = Check.desk(2);
        desk.fold(0, 1, false, true);
        desk.fold(1, 1, false, true);
        desk.fold(2, 3, false, true);
        desk.keep(0);
        desk.sheet(2);
        int answer = desk.search(0, 3);
        if (answer > 0) {
            for (int i = 0; i < answer; i++) {
                int folded = desk.fold(desk.found(i, 0), desk.found(i, 1), desk.found(i, 2) == 1, desk.found(i, 3) == 1);
                Check.due("the way's fold is done", folded > 0 ? 1 : 0, 1);
            }
            Check.due("it is alike then", desk.alike(0) >= 0 ? 1 : 0, 1);
        }
        Check.due("search(0, 3)", answer, 3);
    }

    private static void searchWithoutWay() {
        FoldDesk desk = Check.desk(2);
        desk.turn();
        desk.keep(0);
        desk.undo();
        Check.due("search(0, 1)", desk.search(0, 1), NONE);
        Check.due("count(3)", desk.count(3), 32);
        Check.due("search(0, 3)", desk.search(0, 3), FULL);
        Check.due("count(3)", desk.count(3), 1000);
        int[][] holes = {{0, 0, 3}, {0, 0, 0}, {1, 1, 1}, {1, 0, 0}, {0, 1, 2}};
        int[] lines = {8, 7, 6, 6, 4};
        for (int i = 0; i < holes.length; i++) {
            desk.punch(holes[i][0], holes[i][1], holes[i][2]);
            if (i > 0) {
                desk.punch(holes[i][1], holes[i][0], 3 - holes[i][2]);
            }
            Check.due("search(0, 1)", desk.search(0, 1), NONE);
            Check.due("count(3) with holes", desk.count(3), 4 * lines[i]);
        }
        way(desk, 0, NONE, NONE, NONE, NONE);
    }

    private static void searchLeavesAll() {
        FoldDesk desk = Check.desk(3);
        desk.fold(0, 2, true, true);
        desk.punch(1, 1, 1);
        desk.turn();
        desk.keep(0);
        desk.undo();
        int[] before = new int[36 * 6];
        for (int i = 0; i < before.length; i++) {
            before[i] = desk.triangle(i / 6, i % 6);
        }
        Check.due("search(0, 2)", desk.search(0, 2), FULL);
        for (int i = 0; i < before.length; i++) {
            Check.due("triangle behind search", desk.triangle(i / 6, i % 6), before[i]);
        }
        Check.due("count(2)", desk.count(2), 2);
        Check.due("layer", desk.layer(1, 0, 0, 1), 8);
        desk = Check.desk(2);
        desk.fold(0, 1, true, true);
        desk.keep(1);
        desk.undo();
        for (int i = 0; i < 300; i++) {
            desk.turn();
        }
        Check.due("turn()", desk.turn(), FULL);
        // The log has no room, but the search does not ask for any.
        Check.due("search(1, 1)", desk.search(1, 1), 1);
        Check.due("count(2)", desk.count(2), 300);
    }

    private static void searchBeyond() {
        FoldDesk desk = Check.desk(8);
        desk.keep(0);
        desk.fold(0, 1, true, true);
        desk.fold(0, 0, true, true);
        desk.fold(0, -4, true, true);
        desk.cut(1, 1, true);
        // A strip of 4 squares at the table's left edge; all its folds to the left are beyond.
        view(desk, 16, 3, 16, 0, -8, -5, 0, 0);
        Check.due("fold(0, -7, true, true)", desk.fold(0, -7, true, true), FoldDesk.BEYOND);
        Check.due("search(0, 1)", desk.search(0, 1), NONE);
        Check.due("count(3)", desk.count(3), 4 * (3 + 4 + 4));
    }
}
