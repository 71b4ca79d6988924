/**
 * The boundary cases of promises 1, 2, 11 to 18 and 28 and of Terms I, a test for each sentence that names one:
 * the last value that is still taken, the first one that is not, and what is told behind a refused call.
 */
public final class PaperEdgeTest {
    private static final int NONE = FoldDesk.NONE;
    private static final int RANGE = FoldDesk.RANGE;
    private static final int FULL = FoldDesk.FULL;
    private static final int LEAST = Integer.MIN_VALUE;
    private static final int GREATEST = Integer.MAX_VALUE;

    public static void main(String[] args) {
        newPaperHasFourByFourSquares();
        newObjectHasNoShapes();
        newObjectHasNothingToTell();
        objectIsUsedFor512Calls();
        sheetTakesTwoToEight();
        sheetRefusesOthers();
        sheetEmptiesTheLog();
        sheetLeavesTheShapes();

        triangleNumbersEndWithThePaper();
        triangleNumbersOfNoPaper();
        triangleWhatIsFromNoughtToFive();
        triangleThatIsGone();
        triangleAtTheTablesEdges();
        layersAreNumberedFromNought();

        cellsOfTheTableAndBeyond();
        cellWhatIsFromNoughtToFour();
        cellWithoutLayers();
        cellWithOneLayer();
        layerFromTheLowestToTheTop();
        layerOfNoCell();

        sideIsFromNoughtToTwo();
        sideOfNoTriangle();
        sideAtThePapersEdge();
        sideOfOneThatIsGone();
        sideIsJoinedTillOneIsGone();
        sideIsValleyOrMountain();

        cornersAreInnerOnes();
        centresAreOfAllSquares();
        pointWhatIsFromNoughtToThree();
        pointWithoutCreases();
        firstCreaseMayBeStraightToTheRight();
        firstCreaseOfACentre();
        trianglesRoundAPoint();
        pointWithoutTriangles();

        piecesOfNothing();
        piecesThatTouchAtAPoint();
        pieceOfOneThatIsGone();
        pieceOfNoTriangle();

        viewWhatIsFromNoughtToSeven();
        viewOfNothing();
        viewAtTheTablesEdges();

        countWhatIsFromNoughtToFive();
        countOfSquares();
        countOfTriangles();
        countOfEntries();
        countOfTries();
        countOfBytes();
        countOfShapes();
        Check.end();
    }

    // ---- Promise 1: "A paper of 4 by 4 squares, no shapes."

    private static void newPaperHasFourByFourSquares() {
        FoldDesk desk = new FoldDesk();
        Check.due("count(0)", desk.count(0), 4);
        Check.due("count(1)", desk.count(1), 64);
        Check.lies(desk, 0, 0, 0, 0, 1, 0);
        Check.lies(desk, 63, 3, 3, 3, 1, 0);
        Check.due("triangle(64, 0)", desk.triangle(64, 0), NONE);
        Check.due("cell(4, 3, 3, 0)", desk.cell(4, 3, 3, 0), 0);
        Check.due("cell(3, 4, 0, 0)", desk.cell(3, 4, 0, 0), 0);
    }

    private static void newObjectHasNoShapes() {
        FoldDesk desk = new FoldDesk();
        Check.due("count(5)", desk.count(5), 0);
        for (int k = 0; k < 6; k++) {
            Check.due("alike(" + k + ")", desk.alike(k), RANGE);
            Check.due("search(" + k + ", 1)", desk.search(k, 1), RANGE);
        }
    }

    private static void newObjectHasNothingToTell() {
        FoldDesk desk = new FoldDesk();
        Check.due("log(0, 0)", desk.log(0, 0), NONE);
        Check.due("found(0, 0)", desk.found(0, 0), NONE);
        Check.faults(desk, "no text", 0, NONE, 0, 0);
        Check.due("count(2)", desk.count(2), 0);
        Check.due("count(3)", desk.count(3), 0);
        Check.due("count(4)", desk.count(4), 0);
        Check.refused("undo()", d -> { }, FoldDesk::undo, NONE);
    }

    /** "An object is used for at most 512 calls after it has been made" */
    private static void objectIsUsedFor512Calls() {
        FoldDesk desk = new FoldDesk();
        for (int i = 0; i < 255; i++) {
            Check.due("turn()", desk.turn(), 64);
            Check.due("undo()", desk.undo(), 0);
        }
        Check.due("fold(0, 2, true, true), the 511th call", desk.fold(0, 2, true, true), 32);
        Check.due("layer(0, 0, 0, 1), the 512th call", desk.layer(0, 0, 0, 1), 12);
    }

    // ---- Promise 2: "A new paper of n by n squares; THE LOG is empty (SHAPES stay): n; RANGE."

    private static void sheetTakesTwoToEight() {
        for (int n = 2; n <= 8; n++) {
            FoldDesk desk = new FoldDesk();
            desk.fold(0, 1, true, true);
            desk.punch(0, 0, 0);
            Check.due("sheet(" + n + ")", desk.sheet(n), n);
            Check.due("count(0)", desk.count(0), n);
            Check.due("count(1)", desk.count(1), 4 * n * n);
            Check.due("view(0)", desk.view(0), 4 * n * n);
            Check.due("view(1)", desk.view(1), 1);
            Check.lies(desk, 0, 0, 0, 0, 1, 0);
            Check.lies(desk, 4 * n - 1, n - 1, 0, 3, 1, 0);
            Check.lies(desk, 4 * n, 0, 1, 0, 1, 0);
            Check.lies(desk, 4 * n * n - 1, n - 1, n - 1, 3, 1, 0);
        }
    }

    private static void sheetRefusesOthers() {
        int[] wrong = {1, 9, 0, -1, -2, 10, LEAST, GREATEST};
        for (int n : wrong) {
            Check.refused("sheet(" + n + ")", Check::used, d -> d.sheet(n), RANGE);
        }
    }

    private static void sheetEmptiesTheLog() {
        FoldDesk desk = Check.desk(3);
        Check.fill(desk, 300);
        Check.due("turn()", desk.turn(), FULL);
        Check.due("sheet(3)", desk.sheet(3), 3);
        Check.due("count(2)", desk.count(2), 0);
        Check.due("log(0, 0)", desk.log(0, 0), NONE);
        Check.due("undo()", desk.undo(), NONE);
        Check.due("turn()", desk.turn(), 36);
        Check.due("undo()", desk.undo(), 0);
        Check.due("triangle(0, 1)", desk.triangle(0, 1), 0);
    }

    private static void sheetLeavesTheShapes() {
        FoldDesk desk = Check.desk(8);
        for (int k = 0; k < 6; k++) {
            desk.keep(k);
        }
        Check.due("sheet(2)", desk.sheet(2), 2);
        Check.due("count(5)", desk.count(5), 6);
        Check.due("alike(5)", desk.alike(5), NONE);
        Check.due("sheet(8)", desk.sheet(8), 8);
        Check.due("alike(0)", desk.alike(0), 0);
        Check.due("alike(5)", desk.alike(5), 0);
    }

    // ---- Promise 11: "NONE when there is none such, or for another what."

    private static void triangleNumbersEndWithThePaper() {
        for (int n = 2; n <= 8; n++) {
            FoldDesk desk = Check.desk(8);
            desk.sheet(n);
            int last = 4 * n * n - 1;
            for (int what = 0; what < 6; what++) {
                Check.due("triangle(-1, " + what + ")", desk.triangle(-1, what), NONE);
                Check.due("triangle(" + (last + 1) + ", " + what + ")", desk.triangle(last + 1, what), NONE);
            }
            Check.due("triangle(0, 0)", desk.triangle(0, 0), 1);
            Check.due("triangle(" + last + ", 0)", desk.triangle(last, 0), 1);
        }
    }

    private static void triangleNumbersOfNoPaper() {
        FoldDesk desk = Check.desk(8);
        Check.due("triangle(255, 0)", desk.triangle(255, 0), 1);
        int[] wrong = {256, 257, -2, LEAST, GREATEST};
        for (int f : wrong) {
            for (int what = 0; what < 6; what++) {
                Check.due("triangle(" + f + ", " + what + ")", desk.triangle(f, what), NONE);
            }
        }
    }

    private static void triangleWhatIsFromNoughtToFive() {
        FoldDesk desk = Check.desk(2);
        desk.punch(0, 0, 0);
        Check.lies(desk, 15, 1, 1, 3, 1, 0);
        int[] wrong = {-1, 6, LEAST, GREATEST};
        for (int what : wrong) {
            Check.due("triangle(15, " + what + ")", desk.triangle(15, what), NONE);
            Check.due("triangle(0, " + what + ")", desk.triangle(0, what), NONE);
            Check.due("triangle(16, " + what + ")", desk.triangle(16, what), NONE);
        }
    }

    /** "0 if it is GONE; .. (NONE of one that is GONE)" */
    private static void triangleThatIsGone() {
        FoldDesk desk = Check.desk(2);
        Check.due("triangle(5, 0)", desk.triangle(5, 0), 1);
        desk.punch(1, 0, 1);
        Check.due("triangle(5, 0)", desk.triangle(5, 0), 0);
        for (int what = 1; what < 6; what++) {
            Check.due("triangle(5, " + what + ") of one that is gone", desk.triangle(5, what), NONE);
        }
        desk.open();
        Check.due("triangle(5, 0)", desk.triangle(5, 0), 0);
        desk.undo();
        desk.undo();
        Check.lies(desk, 5, 1, 0, 1, 1, 0);
    }

    /** Brings the eight columns to x = -8 .. -5. */
    private static void foldToTheLeft(FoldDesk desk) {
        desk.sheet(8);
        desk.fold(0, 1, true, true);
        desk.fold(0, 0, true, true);
        desk.fold(0, -4, true, true);
    }

    /** "THE TABLE has the squares (x, y), -8 .. 15 each" */
    private static void triangleAtTheTablesEdges() {
        FoldDesk desk = new FoldDesk();
        foldToTheLeft(desk);
        // Column 0 went to -1 with column 1 on it, and from there to -8.
        Check.lies(desk, 0, -8, 0, 0, 1, desk.triangle(0, 5));
        Check.due("view(4)", desk.view(4), -8);
        desk.turn();
        Check.lies(desk, 0, 15, 0, 0, 0, desk.triangle(0, 5));
        desk.quarter();
        Check.lies(desk, 0, 7, 15, 1, 0, desk.triangle(0, 5));
        desk.quarter();
        desk.quarter();
        Check.lies(desk, 0, 0, -8, 3, 0, desk.triangle(0, 5));
    }

    /** "LAYERS, numbered from 0, the lowest one, on" */
    private static void layersAreNumberedFromNought() {
        FoldDesk desk = new FoldDesk();
        foldToOneCell(desk);
        int lowest = desk.layer(0, 0, 0, 0);
        int top = desk.layer(0, 0, 0, 255);
        Check.due("triangle(lowest, 5)", desk.triangle(lowest, 5), 0);
        Check.due("triangle(top, 5)", desk.triangle(top, 5), 255);
        Check.due("cell(0, 0, 0, 0)", desk.cell(0, 0, 0, 0), 256);
        Check.due("cell(0, 0, 0, 1)", desk.cell(0, 0, 0, 1), top);
        Check.due("cell(0, 0, 0, 3)", desk.cell(0, 0, 0, 3), lowest);
        Check.due("layer(0, 0, 0, 256)", desk.layer(0, 0, 0, 256), NONE);
        Check.due("layer(0, 0, 0, -1)", desk.layer(0, 0, 0, -1), NONE);
    }

    /** All of the largest paper comes to the cell (0, 0, 0). */
    private static void foldToOneCell(FoldDesk desk) {
        desk.sheet(8);
        for (int kind = 0; kind < 2; kind++) {
            desk.fold(kind, 4, true, true);
            desk.fold(kind, 2, true, false);
            desk.fold(kind, 1, true, true);
        }
        desk.fold(3, 0, false, true);
        desk.fold(2, 1, true, false);
    }

    // ---- Promise 12: "NONE when there is no such CELL, or for another what."

    private static final int[][] NO_CELLS = {{-9, 0, 0}, {16, 0, 0}, {0, -9, 0}, {0, 16, 0}, {0, 0, -1}, {0, 0, 4},
        {-9, -9, 0}, {16, 16, 3}, {LEAST, 0, 0}, {GREATEST, 0, 0}, {0, LEAST, 0}, {0, GREATEST, 0}, {0, 0, LEAST},
        {0, 0, GREATEST}};

    private static void cellsOfTheTableAndBeyond() {
        FoldDesk desk = Check.desk(2);
        int[][] last = {{-8, 0, 0}, {15, 0, 0}, {0, -8, 0}, {0, 15, 0}, {-8, -8, 3}, {15, 15, 3}, {-8, 15, 0}, {15, -8, 0}};
        for (int[] at : last) {
            Check.due("cell at the table's edge", desk.cell(at[0], at[1], at[2], 0), 0);
        }
        for (int q = 0; q < 4; q++) {
            Check.due("cell(1, 1, " + q + ", 1)", desk.cell(1, 1, q, 1), 12 + q);
        }
        for (int[] at : NO_CELLS) {
            for (int what = 0; what < 5; what++) {
                Check.due("cell(" + at[0] + ", " + at[1] + ", " + at[2] + ", " + what + ")",
                        desk.cell(at[0], at[1], at[2], what), NONE);
            }
        }
    }

    private static void cellWhatIsFromNoughtToFour() {
        FoldDesk desk = Check.desk(2);
        desk.fold(0, 1, true, true);
        int[] want = {2, 4, 0, 0, 1};
        for (int what = 0; what < 5; what++) {
            Check.due("cell(0, 0, 0, " + what + ")", desk.cell(0, 0, 0, what), want[what]);
        }
        int[] wrong = {-1, 5, LEAST, GREATEST};
        for (int what : wrong) {
            Check.due("cell(0, 0, 0, " + what + ")", desk.cell(0, 0, 0, what), NONE);
            Check.due("cell(9, 9, 0, " + what + ")", desk.cell(9, 9, 0, what), NONE);
        }
    }

    /** "(NONE each without any)" */
    private static void cellWithoutLayers() {
        FoldDesk desk = Check.desk(2);
        desk.fold(0, 1, true, true);
        desk.punch(0, 0, 1);
        int[][] empty = {{1, 0, 3}, {0, 0, 1}, {-8, -8, 0}};
        for (int[] at : empty) {
            Check.due("cell without layers, 0", desk.cell(at[0], at[1], at[2], 0), 0);
            for (int what = 1; what < 5; what++) {
                Check.due("cell without layers, " + what, desk.cell(at[0], at[1], at[2], what), NONE);
            }
        }
    }

    private static void cellWithOneLayer() {
        FoldDesk desk = Check.desk(2);
        int[] want = {1, 7, 1, 7, 1};
        int[] turned = {1, 7, 0, 7, 0};
        for (int what = 0; what < 5; what++) {
            Check.due("cell(1, 0, 3, " + what + ")", desk.cell(1, 0, 3, what), want[what]);
        }
        desk.turn();
        for (int what = 0; what < 5; what++) {
            Check.due("cell(6, 0, 1, " + what + ")", desk.cell(6, 0, 1, what), turned[what]);
        }
    }

    // ---- Promise 13: "The TRIANGLE in a LAYER of a CELL; NONE."

    private static void layerFromTheLowestToTheTop() {
        FoldDesk desk = Check.desk(2);
        int[] wrong = {-1, 1, 2, LEAST, GREATEST};
        Check.due("layer(0, 0, 0, 0)", desk.layer(0, 0, 0, 0), 0);
        for (int k : wrong) {
            Check.due("layer(0, 0, 0, " + k + ")", desk.layer(0, 0, 0, k), NONE);
        }
        desk.fold(0, 1, true, true);
        Check.layers(desk, 0, 0, 0, 0, 4);
        desk.fold(1, 1, true, false);
        Check.layers(desk, 0, 0, 0, 14, 10, 0, 4);
        Check.due("layer(0, 0, 0, -1)", desk.layer(0, 0, 0, -1), NONE);
        Check.due("layer(1, 0, 0, 0)", desk.layer(1, 0, 0, 0), NONE);
        desk.punch(0, 0, 0);
        Check.due("layer(0, 0, 0, 0)", desk.layer(0, 0, 0, 0), NONE);
    }

    private static void layerOfNoCell() {
        FoldDesk desk = Check.desk(2);
        for (int[] at : NO_CELLS) {
            Check.due("layer(" + at[0] + ", " + at[1] + ", " + at[2] + ", 0)", desk.layer(at[0], at[1], at[2], 0), NONE);
        }
        Check.due("layer(-8, 15, 3, 0)", desk.layer(-8, 15, 3, 0), NONE);
    }

    // ---- Promise 14: "What side e, 0 .. 2, of TRIANGLE f is: .. NONE when there is none such."

    private static void sideIsFromNoughtToTwo() {
        FoldDesk desk = Check.desk(2);
        int[] want = {4, 0, 0};
        for (int e = 0; e < 3; e++) {
            Check.due("side(0, " + e + ")", desk.side(0, e), want[e]);
        }
        int[] wrong = {-1, 3, LEAST, GREATEST};
        for (int e : wrong) {
            Check.due("side(0, " + e + ")", desk.side(0, e), NONE);
            Check.due("side(16, " + e + ")", desk.side(16, e), NONE);
        }
    }

    private static void sideOfNoTriangle() {
        for (int n = 2; n <= 8; n += 3) {
            FoldDesk desk = Check.desk(n);
            int last = 4 * n * n - 1;
            Check.due("side(" + last + ", 1)", desk.side(last, 1), 0);
            int[] wrong = {-1, last + 1, LEAST, GREATEST};
            for (int f : wrong) {
                for (int e = 0; e < 3; e++) {
                    Check.due("side(" + f + ", " + e + ")", desk.side(f, e), NONE);
                }
            }
        }
    }

    /** "4 the paper's edge": the long sides all round, and those alone. */
    private static void sideAtThePapersEdge() {
        int[] sizes = {2, 3, 8};
        for (int n : sizes) {
            for (int f = 0; f < 4 * n * n; f += 100) {
                sidesOfAHundred(Check.desk(n), n, f);
            }
        }
    }

    private static void sidesOfAHundred(FoldDesk desk, int n, int first) {
        for (int f = first; f < 4 * n * n && f < first + 100; f++) {
            int x = f / 4 % n;
            int y = f / 4 / n;
            int[] far = {y, n - 1 - x, n - 1 - y, x};
            Check.due("side(" + f + ", 0) of " + n, desk.side(f, 0), far[f % 4] == 0 ? 4 : 0);
            Check.due("side(" + f + ", 1) of " + n, desk.side(f, 1), 0);
            Check.due("side(" + f + ", 2) of " + n, desk.side(f, 2), 0);
        }
    }

    /** "3 one of both is GONE": this one, that one, or both. */
    private static void sideOfOneThatIsGone() {
        FoldDesk desk = Check.desk(2);
        desk.punch(0, 0, 1);
        Check.due("side(1, 0) of one that is gone", desk.side(1, 0), 3);
        Check.due("side(7, 0) to one that is gone", desk.side(7, 0), 3);
        Check.due("side(1, 1)", desk.side(1, 1), 3);
        Check.due("side(2, 2)", desk.side(2, 2), 3);
        Check.due("side(1, 2)", desk.side(1, 2), 3);
        Check.due("side(0, 1)", desk.side(0, 1), 3);
        Check.due("side(0, 2)", desk.side(0, 2), 0);
        desk.punch(1, 0, 3);
        Check.due("side(1, 0), both gone", desk.side(1, 0), 3);
        Check.due("side(7, 0), both gone", desk.side(7, 0), 3);
        desk.punch(0, 0, 3);
        Check.due("side(3, 0) at the edge", desk.side(3, 0), 4);
    }

    /** "Two that have a side in common are JOINED, till one is GONE." */
    private static void sideIsJoinedTillOneIsGone() {
        FoldDesk desk = Check.desk(2);
        desk.fold(0, 1, true, true);
        Check.due("side(1, 0)", desk.side(1, 0), 1);
        desk.cut(0, 0, true);
        Check.due("side(1, 0)", desk.side(1, 0), 1);
        desk.punch(0, 0, 1);
        Check.due("side(1, 0)", desk.side(1, 0), 3);
        desk.open();
        Check.due("side(1, 0)", desk.side(1, 0), 3);
        desk.undo();
        desk.undo();
        Check.due("side(1, 0)", desk.side(1, 0), 1);
        desk.open();
        Check.due("side(1, 0)", desk.side(1, 0), 0);
    }

    /** "a VALLEY if the lower one is FACE up, else a MOUNTAIN" */
    private static void sideIsValleyOrMountain() {
        boolean[] both = {true, false};
        for (boolean high : both) {
            for (boolean over : both) {
                FoldDesk desk = Check.desk(2);
                desk.fold(0, 1, high, over);
                for (int turns = 0; turns < 2; turns++) {
                    Check.due("side(1, 0)", desk.side(1, 0), over ? 1 : 2);
                    Check.due("side(7, 0)", desk.side(7, 0), over ? 1 : 2);
                    Check.due("side(2, 0)", desk.side(2, 0), 0);
                    desk.turn();
                }
                desk.fold(1, 1, high, over);
                Check.due("side(1, 0)", desk.side(1, 0), over ? 1 : 2);
                Check.due("one crease is a valley, one a mountain", desk.side(2, 0) + desk.side(6, 0), 3);
            }
        }
    }

    // ---- Promise 15: "an inner corner (x, y) .. 1 .. n - 1 each, or the centre of square (x, y)"

    private static void cornersAreInnerOnes() {
        int[] sizes = {2, 3, 8};
        for (int n : sizes) {
            FoldDesk desk = Check.desk(n);
            int[] right = {1, n - 1};
            for (int x : right) {
                for (int y : right) {
                    Check.due("point(" + x + ", " + y + ", false, 3)", desk.point(x, y, false, 3), 8);
                }
            }
            int[] wrong = {0, n, -1, n + 1, LEAST, GREATEST};
            for (int at : wrong) {
                for (int what = 0; what < 4; what++) {
                    Check.due("point(" + at + ", 1, false, " + what + ")", desk.point(at, 1, false, what), NONE);
                    Check.due("point(1, " + at + ", false, " + what + ")", desk.point(1, at, false, what), NONE);
                    Check.due("point(" + at + ", " + at + ", false, " + what + ")", desk.point(at, at, false, what), NONE);
                }
            }
        }
    }

    private static void centresAreOfAllSquares() {
        int[] sizes = {2, 3, 8};
        for (int n : sizes) {
            FoldDesk desk = Check.desk(n);
            int[] right = {0, n - 1};
            for (int x : right) {
                for (int y : right) {
                    Check.due("point(" + x + ", " + y + ", true, 3)", desk.point(x, y, true, 3), 4);
                }
            }
            int[] wrong = {-1, n, n + 1, LEAST, GREATEST};
            for (int at : wrong) {
                for (int what = 0; what < 4; what++) {
                    Check.due("point(" + at + ", 0, true, " + what + ")", desk.point(at, 0, true, what), NONE);
                    Check.due("point(0, " + at + ", true, " + what + ")", desk.point(0, at, true, what), NONE);
                }
            }
        }
    }

    private static void pointWhatIsFromNoughtToThree() {
        FoldDesk desk = Check.desk(2);
        desk.fold(2, 2, true, false);
        point(desk, 1, 1, false, 2, 0, 180, 8);
        point(desk, 1, 0, true, 2, 0, 180, 4);
        int[] wrong = {-1, 4, LEAST, GREATEST};
        for (int what : wrong) {
            Check.due("point(1, 1, false, " + what + ")", desk.point(1, 1, false, what), NONE);
            Check.due("point(1, 1, true, " + what + ")", desk.point(1, 1, true, what), NONE);
            Check.due("point(2, 2, true, " + what + ")", desk.point(2, 2, true, what), NONE);
        }
    }

    private static void point(FoldDesk desk, int x, int y, boolean centre, int... want) {
        for (int what = 0; what < 4; what++) {
            Check.due("point(" + x + ", " + y + ", " + centre + ", " + what + ")", desk.point(x, y, centre, what), want[what]);
        }
    }

    /** "0 without CREASES" */
    private static void pointWithoutCreases() {
        FoldDesk desk = Check.desk(3);
        point(desk, 1, 1, false, 0, 0, 0, 8);
        point(desk, 0, 0, true, 0, 0, 0, 4);
        desk.fold(0, 2, true, true);
        point(desk, 1, 1, false, 0, 0, 0, 8);
        point(desk, 2, 1, false, 0, 2, 180, 8);
        desk.open();
        point(desk, 2, 1, false, 0, 0, 0, 8);
    }

    /** "the first one is that behind the first CREASE (.. from straight to the right on, with it ..)" */
    private static void firstCreaseMayBeStraightToTheRight() {
        // Each pair of holes leaves two of the four creases that come together at the corner.
        int[][] holes = {{0, 1, 1, 0, 0, 2}, {0, 1, 0, 0, 0, 1}, {1, 1, 0, 0, 0, 1}, {1, 1, 0, 0, 1, 1}};
        int[] sums = {270, 90, 90, 90};
        for (int i = 0; i < holes.length; i++) {
            FoldDesk desk = Check.desk(2);
            int[] at = holes[i];
            desk.punch(at[0], at[1], at[2]);
            desk.punch(at[3], at[4], at[5]);
            desk.fold(0, 1, true, true);
            desk.fold(1, 1, true, true);
            Check.due("creases at the corner", desk.point(1, 1, false, 0) + desk.point(1, 1, false, 1), 2);
            Check.due("point(1, 1, false, 2)", desk.point(1, 1, false, 2), sums[i]);
            Check.due("point(1, 1, false, 3)", desk.point(1, 1, false, 3), 6);
        }
    }

    /** Of a centre the first one may go to the upper right; straight to the right there is none. */
    private static void firstCreaseOfACentre() {
        int[] sums = {90, 90, 90, 270};
        for (int q = 0; q < 4; q++) {
            FoldDesk desk = Check.desk(2);
            // The hole leaves two of the four creases, those of the triangle across from it.
            desk.punch(0, 0, q);
            desk.fold(2, 1, false, true);
            desk.fold(3, 0, false, true);
            Check.due("creases at the centre", desk.point(0, 0, true, 0) + desk.point(0, 0, true, 1), 2);
            Check.due("point(0, 0, true, 2) without " + q, desk.point(0, 0, true, 2), sums[q]);
        }
    }

    /** "how many TRIANGLES round it are not GONE": each of them counts, and no other. */
    private static void trianglesRoundAPoint() {
        // The corner (1, 1) is one of these triangles' corners.
        int round = 1 << 1 | 1 << 2 | 1 << 6 | 1 << 7 | 1 << 8 | 1 << 9 | 1 << 12 | 1 << 15;
        for (int f = 0; f < 16; f++) {
            FoldDesk desk = Check.desk(2);
            desk.punch(f / 4 % 2, f / 8, f % 4);
            Check.due("point(1, 1, false, 3) without " + f, desk.point(1, 1, false, 3), (round >> f & 1) == 1 ? 7 : 8);
            for (int square = 0; square < 4; square++) {
                Check.due("point of the square " + square + " without " + f, desk.point(square % 2, square / 2, true, 3),
                        f / 4 == square ? 3 : 4);
            }
        }
    }

    private static void pointWithoutTriangles() {
        FoldDesk desk = Check.desk(2);
        for (int f = 0; f < 16; f++) {
            desk.punch(f / 4 % 2, f / 8, f % 4);
            Check.due("point(0, 0, true, 3)", desk.point(0, 0, true, 3), Math.max(0, 3 - f));
        }
        point(desk, 1, 1, false, 0, 0, 0, 0);
        point(desk, 1, 1, true, 0, 0, 0, 0);
    }

    // ---- Promises 16 and 17: "Into how many pieces the TRIANGLES that are not GONE fall", "NONE when it is GONE, or none such."

    private static void piecesOfNothing() {
        FoldDesk desk = new FoldDesk();
        Check.bare(desk);
        Check.due("pieces()", desk.pieces(), 0);
        desk.undo();
        Check.due("pieces()", desk.pieces(), 1);
        Check.due("piece(15)", desk.piece(15), 15);
    }

    private static void piecesThatTouchAtAPoint() {
        FoldDesk desk = Check.desk(2);
        int[][] holes = {{0, 0, 1}, {0, 0, 2}, {1, 1, 0}, {1, 1, 3}};
        int[] want = {1, 1, 2, 3, 4};
        for (int i = 0; i < holes.length; i++) {
            Check.due("pieces()", desk.pieces(), want[i]);
            desk.punch(holes[i][0], holes[i][1], holes[i][2]);
        }
        Check.due("pieces()", desk.pieces(), want[holes.length]);
        int[] least = {0, NONE, NONE, 0, 4, 4, 4, 4, 8, 8, 8, 8, NONE, 13, 13, NONE};
        for (int f = 0; f < 16; f++) {
            Check.due("piece(" + f + ")", desk.piece(f), least[f]);
        }
    }

    private static void pieceOfOneThatIsGone() {
        FoldDesk desk = Check.desk(2);
        Check.due("piece(0)", desk.piece(0), 0);
        Check.due("piece(15)", desk.piece(15), 0);
        desk.punch(0, 0, 0);
        Check.due("piece(0)", desk.piece(0), NONE);
        Check.due("piece(1)", desk.piece(1), 1);
        Check.due("piece(15)", desk.piece(15), 1);
    }

    private static void pieceOfNoTriangle() {
        int[] sizes = {2, 5, 8};
        for (int n : sizes) {
            FoldDesk desk = Check.desk(n);
            Check.due("piece of the last one", desk.piece(4 * n * n - 1), 0);
            int[] wrong = {-1, 4 * n * n, LEAST, GREATEST};
            for (int f : wrong) {
                Check.due("piece(" + f + ")", desk.piece(f), NONE);
            }
        }
    }

    // ---- Promise 18: "(NONE without any). NONE for another what."

    private static void viewWhatIsFromNoughtToSeven() {
        FoldDesk desk = Check.desk(3);
        desk.fold(0, 2, true, true);
        view(desk, 24, 2, 12, 12, 0, 1, 0, 2);
        int[] wrong = {-1, 8, LEAST, GREATEST};
        for (int what : wrong) {
            Check.due("view(" + what + ")", desk.view(what), NONE);
        }
    }

    private static void view(FoldDesk desk, int... want) {
        for (int what = 0; what < 8; what++) {
            Check.due("view(" + what + ")", desk.view(what), want[what]);
        }
    }

    private static void viewOfNothing() {
        FoldDesk desk = new FoldDesk();
        Check.bare(desk);
        view(desk, 0, 0, 0, 0, NONE, NONE, NONE, NONE);
        Check.due("view(-1)", desk.view(-1), NONE);
        Check.due("view(8)", desk.view(8), NONE);
        desk.undo();
        view(desk, 1, 1, 1, 0, 1, 1, 1, 1);
        desk.turn();
        view(desk, 1, 1, 0, 1, 6, 6, 1, 1);
        desk.sheet(2);
        for (int f = 15; f > 0; f--) {
            desk.punch(f / 4 % 2, f / 8, f % 4);
        }
        view(desk, 1, 1, 1, 0, 0, 0, 0, 0);
    }

    private static void viewAtTheTablesEdges() {
        FoldDesk desk = new FoldDesk();
        foldToTheLeft(desk);
        view(desk, 128, 3, 128, 0, -8, -5, 0, 7);
        // The lowest ones are seen then: in two of the four columns these lay with their backs up.
        desk.turn();
        view(desk, 128, 3, 64, 64, 12, 15, 0, 7);
        desk.quarter();
        view(desk, 128, 3, 64, 64, 0, 7, 12, 15);
        desk.quarter();
        desk.quarter();
        view(desk, 128, 3, 64, 64, 0, 7, -8, -5);
    }

    // ---- Promise 28: "NONE for another what."

    private static void countWhatIsFromNoughtToFive() {
        FoldDesk desk = new FoldDesk();
        Check.used(desk);
        int[] want = {2, 14, 2, 9, 14, 1};
        for (int what = 0; what < 6; what++) {
            Check.due("count(" + what + ")", desk.count(what), want[what]);
        }
        int[] wrong = {-1, 6, LEAST, GREATEST};
        for (int what : wrong) {
            Check.due("count(" + what + ")", desk.count(what), NONE);
        }
    }

    private static void countOfSquares() {
        FoldDesk desk = new FoldDesk();
        int[] sheets = {2, 1, 8, 9};
        int[] want = {2, 2, 8, 8};
        for (int i = 0; i < sheets.length; i++) {
            desk.sheet(sheets[i]);
            Check.due("count(0)", desk.count(0), want[i]);
        }
    }

    private static void countOfTriangles() {
        FoldDesk desk = Check.desk(8);
        Check.due("count(1)", desk.count(1), 256);
        Check.bare(desk);
        Check.due("count(1)", desk.count(1), 0);
        desk.undo();
        Check.due("count(1)", desk.count(1), 1);
    }

    private static void countOfEntries() {
        FoldDesk desk = Check.desk(2);
        Check.due("count(2)", desk.count(2), 0);
        Check.fill(desk, 299);
        desk.turn();
        Check.due("count(2)", desk.count(2), 300);
        desk.turn();
        Check.due("count(2)", desk.count(2), 300);
        desk.undo();
        Check.due("count(2)", desk.count(2), 299);
    }

    /** "TRIES of the latest search() (0 ahead of any)" */
    private static void countOfTries() {
        FoldDesk desk = Check.desk(8);
        Check.due("count(3)", desk.count(3), 0);
        desk.keep(0);
        desk.sheet(2);
        desk.keep(1);
        Check.due("search(0, 3)", desk.search(0, 3), FULL);
        Check.due("count(3)", desk.count(3), 1000);
        Check.due("search(0, 1)", desk.search(0, 1), NONE);
        Check.due("count(3)", desk.count(3), 32);
        Check.due("search(1, 1)", desk.search(1, 1), 0);
        Check.due("count(3)", desk.count(3), 0);
    }

    private static void countOfBytes() {
        FoldDesk desk = new FoldDesk();
        Check.due("count(4)", desk.count(4), 0);
        for (int i = 0; i < 101; i++) {
            desk.feed(0x20202020, 0x20202020, 0x20202020, 0x20202020, 0x20202020);
        }
        Check.due("count(4)", desk.count(4), 2000);
        desk.end(1);
        Check.due("count(4)", desk.count(4), 1);
        desk.diagram();
        Check.due("count(4)", desk.count(4), 0);
    }

    private static void countOfShapes() {
        FoldDesk desk = Check.desk(2);
        int[] kept = {5, 5, 0, 6, -1, 3, 1, 2, 4, 4};
        int[] want = {1, 1, 2, 2, 2, 3, 4, 5, 6, 6};
        for (int i = 0; i < kept.length; i++) {
            desk.keep(kept[i]);
            Check.due("count(5)", desk.count(5), want[i]);
        }
    }
}
