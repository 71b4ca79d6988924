import java.util.Random;

/** Promises 14 to 17: sides, points and pieces. */
public final class CreaseTest {
    private static final int NONE = FoldDesk.NONE;

    public static void main(String[] args) {
        flatSides();
        creases();
        goneSides();
        points();
        pointsOfHoles();
        wrongPoints();
        laws();
        pieces();
        Check.end();
    }

    private static void flatSides() {
        FoldDesk desk = Check.desk(2);
        int[] edges = {0, 4, 5, 13, 10, 14, 3, 11};
        int[] joined = {1, 2, 6, 7, 8, 9, 12, 15};
        for (int f : edges) {
            Check.due("side(" + f + ", 0)", desk.side(f, 0), 4);
        }
        for (int f : joined) {
            Check.due("side(" + f + ", 0)", desk.side(f, 0), 0);
        }
        for (int f = 0; f < 16; f++) {
            Check.due("side(" + f + ", 1)", desk.side(f, 1), 0);
            Check.due("side(" + f + ", 2)", desk.side(f, 2), 0);
            Check.due("side(" + f + ", 3)", desk.side(f, 3), NONE);
            Check.due("side(" + f + ", -1)", desk.side(f, -1), NONE);
        }
        int[] wrong = {-1, 16, Integer.MIN_VALUE, Integer.MAX_VALUE};
        for (int f : wrong) {
            Check.due("side(" + f + ", 0)", desk.side(f, 0), NONE);
        }
    }

    private static void creases() {
        FoldDesk desk = Check.desk(2);
        desk.fold(0, 1, true, false);
        Check.due("side(1, 0)", desk.side(1, 0), 2);
        Check.due("side(7, 0)", desk.side(7, 0), 2);
        Check.due("side(15, 0)", desk.side(15, 0), 2);
        Check.due("side(2, 0)", desk.side(2, 0), 0);
        desk.fold(1, 1, true, true);
        Check.due("side(2, 0)", desk.side(2, 0), 1);
        Check.due("side(6, 0)", desk.side(6, 0), 2);
        Check.due("side(12, 0)", desk.side(12, 0), 2);
        Check.due("side(9, 0)", desk.side(9, 0), 2);
        desk.sheet(2);
        desk.fold(2, 1, false, true);
        Check.due("side(0, 1)", desk.side(0, 1), 1);
        Check.due("side(1, 2)", desk.side(1, 2), 1);
        Check.due("side(0, 2)", desk.side(0, 2), 0);
        Check.due("side(3, 2)", desk.side(3, 2), 1);
        Check.due("side(2, 1)", desk.side(2, 1), 1);
        desk.turn();
        Check.due("side(0, 1)", desk.side(0, 1), 1);
        desk.sheet(2);
        desk.turn();
        desk.fold(0, 7, false, true);
        Check.due("side(1, 0)", desk.side(1, 0), 2);
    }

    private static void goneSides() {
        FoldDesk desk = Check.desk(2);
        desk.punch(0, 0, 0);
        Check.due("side(0, 0)", desk.side(0, 0), 4);
        Check.due("side(0, 1)", desk.side(0, 1), 3);
        Check.due("side(0, 2)", desk.side(0, 2), 3);
        Check.due("side(1, 2)", desk.side(1, 2), 3);
        Check.due("side(3, 1)", desk.side(3, 1), 3);
        Check.due("side(1, 1)", desk.side(1, 1), 0);
        desk.punch(0, 0, 1);
        Check.due("side(0, 1)", desk.side(0, 1), 3);
        Check.due("side(7, 0)", desk.side(7, 0), 3);
        desk.undo();
        desk.undo();
        Check.due("side(0, 1)", desk.side(0, 1), 0);
    }

    private static void point(FoldDesk desk, int x, int y, boolean centre, int... want) {
        for (int what = 0; what < 4; what++) {
            Check.due("point(" + x + ", " + y + ", " + centre + ", " + what + ")", desk.point(x, y, centre, what), want[what]);
        }
    }

    private static void points() {
        FoldDesk desk = Check.desk(2);
        point(desk, 1, 1, false, 0, 0, 0, 8);
        point(desk, 0, 1, true, 0, 0, 0, 4);
        desk.fold(3, 0, false, true);
        point(desk, 1, 1, false, 0, 2, 180, 8);
        point(desk, 0, 0, true, 0, 2, 180, 4);
        point(desk, 1, 0, true, 0, 0, 0, 4);
        desk.fold(2, 2, true, true);
        point(desk, 1, 1, false, 1, 3, 180, 8);
        point(desk, 1, 0, true, 0, 2, 180, 4);
        point(desk, 0, 1, true, 2, 0, 180, 4);
        // All eight lines come together at the corner then.
        desk.fold(0, 1, false, true);
        point(desk, 1, 1, false, 3, 5, 180, 8);
        desk.sheet(2);
        desk.fold(0, 1, true, true);
        desk.fold(3, 0, true, true);
        point(desk, 1, 1, false, 1, 3, 180, 8);
        point(desk, 0, 0, true, 0, 2, 180, 4);
        point(desk, 1, 0, true, 2, 0, 180, 4);
    }

    private static void pointsOfHoles() {
        FoldDesk desk = Check.desk(2);
        desk.fold(0, 1, true, true);
        desk.punch(0, 1, 1);
        point(desk, 1, 1, false, 0, 1, 360, 6);
        desk.undo();
        desk.fold(1, 1, true, true);
        point(desk, 1, 1, false, 1, 3, 180, 8);
        // The creases at 90 and 270 degrees go with these: 0 and 180 are left.
        desk.punch(0, 0, 1);
        point(desk, 1, 1, false, 1, 1, 180, 4);
        desk.sheet(2);
        desk.fold(2, 2, true, true);
        desk.punch(1, 0, 3);
        point(desk, 1, 0, true, 0, 1, 360, 2);
        point(desk, 1, 1, false, 0, 1, 360, 6);
        desk.sheet(2);
        desk.fold(0, 1, true, true);
        desk.fold(1, 1, true, true);
        desk.open();
        point(desk, 1, 1, false, 0, 0, 0, 8);
    }

    private static void wrongPoints() {
        FoldDesk desk = Check.desk(3);
        int[][] corners = {{0, 1}, {1, 0}, {3, 1}, {1, 3}, {-1, 1}, {1, Integer.MAX_VALUE}, {Integer.MIN_VALUE, 1}};
        for (int[] p : corners) {
            for (int what = 0; what < 4; what++) {
                Check.due("point of no corner", desk.point(p[0], p[1], false, what), NONE);
            }
        }
        int[][] centres = {{-1, 0}, {0, -1}, {3, 0}, {0, 3}, {Integer.MAX_VALUE, 0}};
        for (int[] p : centres) {
            for (int what = 0; what < 4; what++) {
                Check.due("point of no centre", desk.point(p[0], p[1], true, what), NONE);
            }
        }
        Check.due("point(1, 1, false, 4)", desk.point(1, 1, false, 4), NONE);
        Check.due("point(1, 1, true, -1)", desk.point(1, 1, true, -1), NONE);
        Check.due("point(2, 2, false, 3)", desk.point(2, 2, false, 3), 8);
        Check.due("point(2, 2, true, 3)", desk.point(2, 2, true, 3), 4);
        Check.due("point(0, 0, true, 3)", desk.point(0, 0, true, 3), 4);
    }

    /** Maekawa: mountains and valleys differ by two. Kawasaki: each second angle sums up to 180 degrees. */
    private static void laws() {
        Random random = new Random(7);
        for (int run = 0; run < 200; run++) {
            int n = 2 + run % 5;
            FoldDesk desk = Check.desk(n);
            for (int i = 0; i < 12; i++) {
                desk.fold(random.nextInt(4), random.nextInt(13) - 4, random.nextBoolean(), random.nextBoolean());
            }
            for (int x = 0; x < n; x++) {
                for (int y = 0; y < n; y++) {
                    lawsAt(desk, x, y, true);
                    lawsAt(desk, x, y, false);
                }
            }
        }
    }

    private static void lawsAt(FoldDesk desk, int x, int y, boolean centre) {
        int mountains = desk.point(x, y, centre, 0);
        int valleys = desk.point(x, y, centre, 1);
        if (mountains + valleys > 0) {
            Check.due("Maekawa's difference", Math.abs(mountains - valleys), 2);
            Check.due("Kawasaki's sum", desk.point(x, y, centre, 2), 180);
        }
    }

    private static void pieces() {
        FoldDesk desk = Check.desk(4);
        Check.due("pieces()", desk.pieces(), 1);
        Check.due("piece(63)", desk.piece(63), 0);
        desk.fold(0, 2, true, true);
        Check.due("pieces()", desk.pieces(), 1);
        Check.due("piece(63)", desk.piece(63), 0);
        desk.cut(0, 1, true);
        Check.due("pieces()", desk.pieces(), 2);
        Check.due("piece(0)", desk.piece(0), 0);
        Check.due("piece(51)", desk.piece(51), 0);
        Check.due("piece(12)", desk.piece(12), 12);
        Check.due("piece(63)", desk.piece(63), 12);
        Check.due("piece(4)", desk.piece(4), NONE);
        int[] wrong = {-1, 64, Integer.MIN_VALUE, Integer.MAX_VALUE};
        for (int f : wrong) {
            Check.due("piece(" + f + ")", desk.piece(f), NONE);
        }
        desk.sheet(2);
        desk.punch(0, 0, 1);
        desk.punch(0, 0, 3);
        // The two that are left of the square touch at a point alone.
        Check.due("pieces()", desk.pieces(), 2);
        Check.due("piece(0)", desk.piece(0), 0);
        Check.due("piece(15)", desk.piece(15), 2);
        for (int f = 0; f < 16; f++) {
            desk.punch(f / 4 % 2, f / 8, f % 4);
        }
        Check.due("pieces()", desk.pieces(), 0);
        Check.due("piece(0)", desk.piece(0), NONE);
    }
}
