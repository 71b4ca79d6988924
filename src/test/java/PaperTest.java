/** Promises 1, 2, 11, 12, 13 and 28: the paper, and what lies where. */
public final class PaperTest {
    private static final int NONE = FoldDesk.NONE;
    private static final int RANGE = FoldDesk.RANGE;

    public static void main(String[] args) {
        newObject();
        sheets();
        sheetKeepsTheRest();
        triangles();
        cells();
        Check.end();
    }

    private static void newObject() {
        FoldDesk desk = new FoldDesk();
        int[] counts = {4, 64, 0, 0, 0, 0};
        for (int what = 0; what < counts.length; what++) {
            Check.due("count(" + what + ")", desk.count(what), counts[what]);
        }
        Check.due("count(-1)", desk.count(-1), NONE);
        Check.due("count(6)", desk.count(6), NONE);
        for (int k = 0; k < 6; k++) {
            Check.due("alike(" + k + ")", desk.alike(k), RANGE);
        }
        for (int f = 0; f < 64; f++) {
            Check.lies(desk, f, f / 4 % 4, f / 16, f % 4, 1, 0);
        }
        Check.due("undo()", desk.undo(), NONE);
        Check.due("found(0, 0)", desk.found(0, 0), NONE);
        Check.faults(desk, "none", 0, NONE, 0, 0);
    }

    private static void sheets() {
        FoldDesk desk = new FoldDesk();
        int[] wrong = {1, 9, 0, -1, Integer.MIN_VALUE, Integer.MAX_VALUE};
        desk.fold(0, 1, true, true);
        for (int n : wrong) {
            Check.due("sheet(" + n + ")", desk.sheet(n), RANGE);
            Check.due("count(0)", desk.count(0), 4);
            Check.due("count(2)", desk.count(2), 1);
            Check.due("cell(0, 0, 0, 0)", desk.cell(0, 0, 0, 0), 2);
        }
        for (int n = 8; n >= 2; n--) {
            Check.due("sheet(" + n + ")", desk.sheet(n), n);
            Check.due("count(0)", desk.count(0), n);
            Check.due("count(1)", desk.count(1), 4 * n * n);
            Check.due("count(2)", desk.count(2), 0);
            Check.due("view(0)", desk.view(0), 4 * n * n);
            Check.due("view(1)", desk.view(1), 1);
            Check.lies(desk, 4 * n * n - 1, n - 1, n - 1, 3, 1, 0);
            Check.due("triangle(" + 4 * n * n + ", 0)", desk.triangle(4 * n * n, 0), NONE);
            Check.due("fold(0, 1, false, true)", desk.fold(0, 1, false, true), 4 * n);
            desk.punch(1, 0, 0);
        }
    }

    private static void sheetKeepsTheRest() {
        FoldDesk desk = Check.desk(2);
        desk.fold(0, 1, true, true);
        desk.keep(2);
        desk.undo();
        Check.due("search(2, 1)", desk.search(2, 1), 1);
        int tries = desk.count(3);
        Text.run(desk, "turn; nonsense");
        Text.put(desk, "over x");
        Check.due("sheet(3)", desk.sheet(3), 3);
        Check.due("count(2)", desk.count(2), 0);
        Check.due("count(3)", desk.count(3), tries);
        Check.due("count(4)", desk.count(4), 6);
        Check.due("count(5)", desk.count(5), 1);
        Check.due("found(0, 1)", desk.found(0, 1), 1);
        Check.faults(desk, "turn; nonsense", 1, 6, 0, 0);
        Check.due("undo()", desk.undo(), NONE);
        Check.due("alike(2)", desk.alike(2), NONE);
        Check.due("sheet(2)", desk.sheet(2), 2);
        desk.fold(0, 1, true, true);
        Check.due("alike(2)", desk.alike(2), 0);
    }

    private static void triangles() {
        FoldDesk desk = Check.desk(2);
        desk.fold(0, 1, true, true);
        Check.lies(desk, 5, 0, 0, 3, 0, 1);
        Check.lies(desk, 7, 0, 0, 1, 0, 1);
        Check.lies(desk, 3, 0, 0, 3, 1, 0);
        int[] wrong = {-1, 16, Integer.MIN_VALUE, Integer.MAX_VALUE};
        for (int f : wrong) {
            for (int what = -1; what < 7; what++) {
                Check.due("triangle(" + f + ", " + what + ")", desk.triangle(f, what), NONE);
            }
        }
        Check.due("triangle(0, -1)", desk.triangle(0, -1), NONE);
        Check.due("triangle(0, 6)", desk.triangle(0, 6), NONE);
        Check.due("punch(0, 0, 3)", desk.punch(0, 0, 3), 2);
        Check.due("triangle(3, 0)", desk.triangle(3, 0), 0);
        for (int what = 1; what < 7; what++) {
            Check.due("triangle(3, " + what + ")", desk.triangle(3, what), NONE);
        }
        Check.due("count(1)", desk.count(1), 14);
    }

    private static void cells() {
        FoldDesk desk = Check.desk(2);
        desk.fold(0, 1, true, true);
        int[] want = {2, 4, 0, 0, 1};
        for (int what = 0; what < want.length; what++) {
            Check.due("cell(0, 0, 0, " + what + ")", desk.cell(0, 0, 0, what), want[what]);
        }
        Check.due("cell(0, 0, 0, -1)", desk.cell(0, 0, 0, -1), NONE);
        Check.due("cell(0, 0, 0, 5)", desk.cell(0, 0, 0, 5), NONE);
        Check.due("layer(0, 0, 0, -1)", desk.layer(0, 0, 0, -1), NONE);
        Check.due("layer(0, 0, 0, max)", desk.layer(0, 0, 0, Integer.MAX_VALUE), NONE);
        Check.layers(desk, 0, 0, 0, 0, 4);
        Check.layers(desk, 0, 1, 3, 11, 13);
        Check.layers(desk, 1, 0, 0);
        Check.due("cell(1, 0, 0, 0)", desk.cell(1, 0, 0, 0), 0);
        for (int what = 1; what < 5; what++) {
            Check.due("cell(1, 0, 0, " + what + ")", desk.cell(1, 0, 0, what), NONE);
        }
        desk.fold(0, 0, true, false);
        int[][] edge = {{-8, -8, 0}, {15, 15, 3}, {-8, 15, 1}, {15, -8, 2}};
        for (int[] cell : edge) {
            Check.due("cell at the edge", desk.cell(cell[0], cell[1], cell[2], 0), 0);
        }
        int[][] wrong = {{-9, 0, 0}, {16, 0, 0}, {0, -9, 0}, {0, 16, 0}, {0, 0, -1}, {0, 0, 4},
            {Integer.MIN_VALUE, 0, 0}, {0, Integer.MAX_VALUE, 0}};
        for (int[] cell : wrong) {
            for (int what = 0; what < 5; what++) {
                Check.due("cell beyond", desk.cell(cell[0], cell[1], cell[2], what), NONE);
            }
            Check.due("layer beyond", desk.layer(cell[0], cell[1], cell[2], 0), NONE);
        }
    }
}
