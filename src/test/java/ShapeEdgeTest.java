/**
 * The boundary cases of promises 19 to 22 and of Terms IV, a test for each sentence that names one: the last value
 * that is still taken, the first one that is not, and what is told behind a refused call.
 */
public final class ShapeEdgeTest {
    private static final int NONE = FoldDesk.NONE;
    private static final int RANGE = FoldDesk.RANGE;
    private static final int FULL = FoldDesk.FULL;
    private static final int LEAST = Integer.MIN_VALUE;
    private static final int GREATEST = Integer.MAX_VALUE;

    public static void main(String[] args) {
        viewIsOfTheTopLayer();
        shapesAreFromNoughtToFive();
        shapeIsKeptAnew();
        shapeOfNothing();
        shapesStay();

        alikeOfNoShape();
        alikeByEachNumberOfQuarters();
        alikeByTheLeastNumber();
        alikePushedAcrossTheTable();
        alikeOfOneCell();
        alikeNotByHalfSquares();
        alikeNotWithTheOtherWayUp();
        alikeNotWithOneMore();
        alikeOfNothing();

        searchOfNoShape();
        searchForOneToThreeFolds();
        searchThatIsThereAlready();
        searchGoesNoFartherThanAsked();
        searchInOrder();
        searchOfWhatCannotBeFolded();
        searchBetweenTwo();
        searchAtThePapersEnds();
        searchCountsWhatIsBeyond();
        thousandTries();
        thousandTriesOfTwoFolds();
        searchAsksForNoRoom();
        allIsAsItWasBehindSearch();

        foundIsOfTheWay();
        foundWhatIsFromNoughtToThree();
        foundBehindNoWay();
        foundStaysBehindRange();
        Check.end();
    }

    /** "THE VIEW is, of each CELL, nothing, FACE or BACK: of the top LAYER." */
    private static void viewIsOfTheTopLayer() {
        FoldDesk desk = Check.desk(2);
        desk.fold(0, 1, true, false);
        desk.keep(0);
        desk.undo();
        // The other half is gone: what lies below makes no difference.
        desk.cut(0, 1, true);
        Check.due("alike(0)", desk.alike(0), 0);
        desk.undo();
        desk.fold(0, 1, true, true);
        Check.due("alike(0)", desk.alike(0), NONE);
        Check.due("view(3)", desk.view(3), 8);
    }

    // ---- Promise 19: "SHAPE k becomes THE VIEW: how many CELLS it has; RANGE."; "SHAPES 0 .. 5"

    private static void shapesAreFromNoughtToFive() {
        for (int k = 0; k < 6; k++) {
            FoldDesk desk = Check.desk(2);
            Check.due("keep(" + k + ")", desk.keep(k), 16);
            Check.due("count(5)", desk.count(5), 1);
            for (int other = 0; other < 6; other++) {
                Check.due("alike(" + other + ")", desk.alike(other), other == k ? 0 : RANGE);
            }
        }
        int[] wrong = {-1, 6, 7, LEAST, GREATEST};
        for (int k : wrong) {
            Check.refused("keep(" + k + ")", Check::used, d -> d.keep(k), RANGE);
            Check.refused("keep(" + k + ") of a new object", d -> { }, d -> d.keep(k), RANGE);
        }
    }

    private static void shapeIsKeptAnew() {
        FoldDesk desk = Check.desk(8);
        Check.due("keep(2)", desk.keep(2), 256);
        desk.sheet(2);
        Check.due("alike(2)", desk.alike(2), NONE);
        Check.due("keep(2)", desk.keep(2), 16);
        Check.due("alike(2)", desk.alike(2), 0);
        Check.due("count(5)", desk.count(5), 1);
        desk.sheet(8);
        Check.due("alike(2)", desk.alike(2), NONE);
        // Nothing of the larger one is left where the smaller one has nothing.
        desk.sheet(2);
        desk.turn();
        Check.due("keep(2)", desk.keep(2), 16);
        desk.undo();
        Check.due("alike(2)", desk.alike(2), NONE);
        desk.turn();
        desk.quarter();
        Check.due("alike(2)", desk.alike(2), 0);
        desk.sheet(2);
        Check.due("keep(2)", desk.keep(2), 16);
        desk.punch(0, 0, 0);
        Check.due("keep(2)", desk.keep(2), 15);
        desk.undo();
        desk.punch(0, 0, 3);
        Check.due("alike(2) with another hole", desk.alike(2), NONE);
    }

    private static void shapeOfNothing() {
        FoldDesk desk = new FoldDesk();
        Check.bare(desk);
        Check.due("keep(5)", desk.keep(5), 0);
        Check.due("count(5)", desk.count(5), 1);
        desk.undo();
        Check.due("keep(4)", desk.keep(4), 1);
        Check.due("alike(5)", desk.alike(5), NONE);
    }

    /** Shapes are no part of what an act does, or of what is taken back. */
    private static void shapesStay() {
        FoldDesk desk = Check.desk(2);
        desk.fold(0, 1, true, true);
        desk.keep(0);
        desk.undo();
        Check.due("count(5)", desk.count(5), 1);
        Check.due("diagram that stops", Text.run(desk, "turn; over x 1 high; over x 9 high;"), NONE);
        Check.due("count(5)", desk.count(5), 1);
        desk.sheet(2);
        Check.due("alike(0)", desk.alike(0), NONE);
        desk.fold(0, 1, true, true);
        Check.due("alike(0)", desk.alike(0), 0);
    }

    // ---- Promise 20: "The least r by which THE VIEW is ALIKE SHAPE k ..; NONE if it isn't; RANGE, also if there is no
    // SHAPE k."

    private static void alikeOfNoShape() {
        int[] wrong = {-1, 6, LEAST, GREATEST, 0, 2, 4, 5};
        for (int k : wrong) {
            Check.refused("alike(" + k + ")", Check::used, d -> d.alike(k), RANGE);
        }
        FoldDesk desk = new FoldDesk();
        Check.used(desk);
        Check.due("alike(3)", desk.alike(3), NONE);
    }

    private static void alikeByEachNumberOfQuarters() {
        for (int r = 0; r < 4; r++) {
            FoldDesk desk = Check.desk(3);
            desk.punch(0, 0, 0);
            desk.punch(2, 1, 1);
            for (int i = 0; i < r; i++) {
                desk.quarter();
            }
            desk.keep(0);
            for (int i = 0; i < r; i++) {
                desk.undo();
            }
            // The view, turned by r quarters, is the shape.
            Check.due("alike(0) by " + r, desk.alike(0), r);
        }
    }

    private static void alikeByTheLeastNumber() {
        FoldDesk desk = Check.desk(4);
        desk.keep(0);
        desk.quarter();
        Check.due("alike(0) of a square", desk.alike(0), 0);
        desk.sheet(4);
        desk.cut(0, 1, true);
        desk.keep(0);
        int[] strip = {1, 0, 1, 0};
        for (int r : strip) {
            desk.quarter();
            Check.due("alike(0) of a strip", desk.alike(0), r);
        }
    }

    /** "pushed by whole squares": from one corner of the table to the other. */
    private static void alikePushedAcrossTheTable() {
        FoldDesk desk = Check.desk(8);
        for (int kind = 0; kind < 2; kind++) {
            desk.fold(kind, 1, true, true);
            desk.fold(kind, 0, true, true);
            desk.fold(kind, -4, true, true);
        }
        desk.cut(0, -7, true);
        desk.cut(1, -7, true);
        desk.cut(2, -15, true);
        Check.due("view(0)", desk.view(0), 2);
        Check.due("view(5)", desk.view(5), -8);
        Check.due("view(7)", desk.view(7), -8);
        Check.due("keep(0)", desk.keep(0), 2);
        int[] quarters = {3, 2, 1, 0};
        for (int r : quarters) {
            desk.quarter();
            Check.due("alike(0) in the next corner", desk.alike(0), r);
        }
        desk.quarter();
        desk.quarter();
        Check.due("view(4)", desk.view(4), 15);
        Check.due("view(6)", desk.view(6), 15);
        desk.keep(1);
        desk.undo();
        desk.undo();
        Check.due("alike(1)", desk.alike(1), 2);
        // Two cells of the same kind, where the paper lies at first.
        Check.due("view(2)", desk.view(2), 2);
        desk.sheet(2);
        desk.cut(2, 1, true);
        Check.due("alike(0)", desk.alike(0), 0);
        Check.due("alike(1)", desk.alike(1), 2);
    }

    private static void alikeOfOneCell() {
        for (int q = 0; q < 4; q++) {
            FoldDesk desk = Check.desk(2);
            punchAllBut(desk, 2, 0);
            Check.due("keep(0)", desk.keep(0), 1);
            desk.sheet(2);
            punchAllBut(desk, 2, 12 + q);
            Check.due("alike(0)", desk.alike(0), (4 - q) % 4);
        }
    }

    private static void alikeNotByHalfSquares() {
        FoldDesk desk = Check.desk(3);
        // Two small squares on their points, side by side, that touch at a corner of the grid.
        punchAllBut(desk, 3, 2, 6, 12, 16);
        Check.due("keep(0)", desk.keep(0), 4);
        desk.sheet(3);
        // Likewise, one above the other.
        punchAllBut(desk, 3, 1, 7, 13, 19);
        Check.due("alike(0)", desk.alike(0), 1);
        desk.sheet(3);
        // The same figure half a square farther: they touch at the centre of a square.
        punchAllBut(desk, 3, 1, 7, 5, 11);
        Check.due("alike(0)", desk.alike(0), NONE);
    }

    private static void punchAllBut(FoldDesk desk, int n, int... kept) {
        for (int f = 0; f < 4 * n * n; f++) {
            boolean keeps = false;
            for (int k : kept) {
                keeps |= k == f;
            }
            if (!keeps) {
                desk.punch(f / 4 % n, f / 4 / n, f % 4);
            }
        }
    }

    private static void alikeNotWithTheOtherWayUp() {
        FoldDesk desk = Check.desk(3);
        desk.keep(0);
        desk.turn();
        Check.due("alike(0)", desk.alike(0), NONE);
        desk.undo();
        desk.fold(0, 2, true, true);
        desk.keep(0);
        desk.undo();
        // The same cells, as many faces and as many backs; by two quarters they come to the same places.
        desk.fold(0, 1, false, true);
        Check.due("alike(0)", desk.alike(0), 2);
        desk.undo();
        desk.fold(0, 2, true, false);
        Check.due("alike(0)", desk.alike(0), NONE);
    }

    private static void alikeNotWithOneMore() {
        FoldDesk desk = Check.desk(3);
        desk.punch(1, 1, 1);
        desk.keep(0);
        desk.punch(1, 1, 2);
        Check.due("alike(0) with one less", desk.alike(0), NONE);
        desk.undo();
        Check.due("alike(0)", desk.alike(0), 0);
        desk.undo();
        Check.due("alike(0) with one more", desk.alike(0), NONE);
    }

    private static void alikeOfNothing() {
        FoldDesk desk = new FoldDesk();
        Check.bare(desk);
        desk.keep(0);
        Check.due("alike(0) of nothing to nothing", desk.alike(0), 0);
        desk.undo();
        Check.due("alike(0) of one to nothing", desk.alike(0), NONE);
        desk.keep(0);
        desk.punch(1, 1, 3);
        Check.due("alike(0) of nothing to one", desk.alike(0), NONE);
    }

    // ---- Promise 21: "at most so many (1 .. 3) .. RANGE, also if there is no SHAPE k."

    private static void searchOfNoShape() {
        int[] wrong = {-1, 6, LEAST, GREATEST, 0, 2, 4, 5};
        for (int k : wrong) {
            Check.refused("search(" + k + ", 1)", Check::used, d -> d.search(k, 1), RANGE);
        }
        FoldDesk desk = Check.desk(2);
        desk.keep(0);
        desk.keep(5);
        Check.due("search(0, 1)", desk.search(0, 1), 0);
        Check.due("search(5, 1)", desk.search(5, 1), 0);
    }

    private static void searchForOneToThreeFolds() {
        int[] wrong = {0, 4, -1, 5, LEAST, GREATEST};
        for (int most : wrong) {
            Check.refused("search(3, " + most + ")", Check::used, d -> d.search(3, most), RANGE);
            Check.refused("search(0, " + most + ") of the view that is", d -> d.keep(0), d -> d.search(0, most), RANGE);
        }
        for (int most = 1; most < 4; most++) {
            FoldDesk desk = Check.desk(2);
            desk.fold(0, 1, true, true);
            desk.keep(0);
            desk.undo();
            Check.due("search(0, " + most + ")", desk.search(0, most), 1);
        }
    }

    /** "0 if it is now" */
    private static void searchThatIsThereAlready() {
        FoldDesk desk = Check.desk(2);
        desk.fold(0, 1, true, true);
        desk.keep(0);
        for (int quarters = 0; quarters < 4; quarters++) {
            Check.due("search(0, 3)", desk.search(0, 3), 0);
            Check.due("count(3)", desk.count(3), 0);
            Check.due("found(0, 0)", desk.found(0, 0), NONE);
            desk.quarter();
        }
    }

    /** A paper whose every fold makes another view: three triangles of it are gone. */
    private static void holed(FoldDesk desk) {
        desk.sheet(2);
        desk.punch(1, 0, 3);
        desk.punch(0, 1, 3);
        desk.punch(0, 0, 1);
    }

    private static void searchGoesNoFartherThanAsked() {
        FoldDesk desk = new FoldDesk();
        holed(desk);
        desk.fold(0, 1, false, true);
        desk.fold(2, 3, false, true);
        desk.keep(0);
        desk.undo();
        desk.undo();
        Check.due("search(0, 1)", desk.search(0, 1), NONE);
        Check.due("count(3)", desk.count(3), 32);
        Check.due("search(0, 2)", desk.search(0, 2), 2);
        Check.due("search(0, 3)", desk.search(0, 3), 2);
    }

    /** "each LINE .. (by kind, then by c), each LOW, HIGH, each OVER, UNDER, in this order" */
    private static void searchInOrder() {
        int[][] lines = {{0, 1}, {1, 1}, {2, 1}, {2, 2}, {2, 3}, {3, -1}, {3, 0}, {3, 1}};
        for (int tries = 1; tries <= 32; tries++) {
            int[] line = lines[(tries - 1) / 4];
            int high = (tries - 1) / 2 % 2;
            int over = tries % 2;
            FoldDesk desk = new FoldDesk();
            holed(desk);
            desk.fold(line[0], line[1], high == 1, over == 1);
            desk.keep(0);
            desk.undo();
            Check.due("search(0, 1)", desk.search(0, 1), 1);
            Check.due("count(3)", desk.count(3), tries);
            int[] want = {line[0], line[1], high, over};
            for (int what = 0; what < 4; what++) {
                Check.due("found(0, " + what + ")", desk.found(0, what), want[what]);
            }
        }
    }

    /** No line has triangles on both its sides. */
    private static void searchOfWhatCannotBeFolded() {
        FoldDesk desk = Check.desk(2);
        desk.keep(0);
        Check.bare(desk);
        Check.due("search(0, 3) of nothing", desk.search(0, 3), NONE);
        Check.due("count(3)", desk.count(3), 0);
        desk.undo();
        Check.due("search(0, 3) of one", desk.search(0, 3), NONE);
        Check.due("count(3)", desk.count(3), 0);
        desk.undo();
        // Two of one square have one line between them.
        Check.due("search(0, 1) of two", desk.search(0, 1), NONE);
        Check.due("count(3)", desk.count(3), 4);
        Check.due("search(0, 3) of two", desk.search(0, 3), NONE);
        Check.due("count(3)", desk.count(3), 4 + 4 + 4);
    }

    /** "each LINE that has TRIANGLES on both its sides": one at each end is enough. */
    private static void searchBetweenTwo() {
        for (int turns = 0; turns < 2; turns++) {
            FoldDesk desk = Check.desk(8);
            desk.keep(0);
            desk.sheet(2);
            punchAllBut(desk, 2, 0, 15);
            for (int i = 0; i < turns; i++) {
                desk.turn();
            }
            // Two lines lie between them along one of the slants, one along each other kind.
            Check.due("search(0, 1)", desk.search(0, 1), NONE);
            Check.due("count(3)", desk.count(3), 4 * 5);
        }
    }

    private static void searchAtThePapersEnds() {
        int[] sizes = {2, 3, 8};
        for (int n : sizes) {
            FoldDesk desk = Check.desk(n);
            desk.turn();
            desk.keep(0);
            desk.undo();
            Check.due("search(0, 1)", desk.search(0, 1), NONE);
            int lines = 2 * (n - 1) + 2 * (2 * n - 1);
            Check.due("count(3) of " + n, desk.count(3), 4 * lines);
        }
    }

    /** A strip of four squares at the table's left edge, and a shape that it can't be. */
    private static void strip(FoldDesk desk) {
        desk.sheet(8);
        desk.keep(0);
        desk.fold(0, 1, true, true);
        desk.fold(0, 0, true, true);
        desk.fold(0, -4, true, true);
        desk.cut(1, 1, true);
    }

    /** "Each is one TRY, done or BEYOND" */
    private static void searchCountsWhatIsBeyond() {
        FoldDesk desk = new FoldDesk();
        strip(desk);
        Check.due("fold(0, -7, true, true)", desk.fold(0, -7, true, true), FoldDesk.BEYOND);
        Check.due("search(0, 1)", desk.search(0, 1), NONE);
        Check.due("count(3)", desk.count(3), 4 * (3 + 4 + 4));
        desk.fold(0, -6, false, true);
        desk.keep(1);
        desk.undo();
        // x = -7 and x = -6 are tried, the latter by its low side.
        Check.due("search(1, 1)", desk.search(1, 1), 1);
        Check.due("count(3)", desk.count(3), 5);
    }

    /** Two holes, so that the way that is looked for comes late. */
    private static void lateWays(FoldDesk desk, boolean lastOver) {
        desk.sheet(2);
        desk.punch(0, 1, 0);
        desk.punch(0, 0, 1);
        desk.fold(0, 1, false, true);
        desk.fold(2, 3, false, false);
        desk.fold(3, 1, false, lastOver);
        desk.keep(0);
        desk.undo();
        desk.undo();
        desk.undo();
    }

    /** "at most 1000": the way of the 1000th try is found, that of the 1001st is not. */
    private static void thousandTries() {
        FoldDesk desk = new FoldDesk();
        lateWays(desk, true);
        Check.due("search(0, 3), the 1000th try", desk.search(0, 3), 3);
        Check.due("count(3)", desk.count(3), 1000);
        int[][] way = {{0, 1, 0, 1}, {2, 3, 0, 0}, {3, 1, 0, 1}};
        for (int i = 0; i < 3; i++) {
            for (int what = 0; what < 4; what++) {
                Check.due("found(" + i + ", " + what + ")", desk.found(i, what), way[i][what]);
            }
        }
        Check.due("search(0, 2)", desk.search(0, 2), NONE);
        Check.due("search(0, 3)", desk.search(0, 3), 3);
        lateWays(desk, false);
        Check.due("search(0, 3), the 1001st try", desk.search(0, 3), FULL);
        Check.due("count(3)", desk.count(3), 1000);
        Check.due("found(0, 0)", desk.found(0, 0), NONE);
        Check.due("search(0, 2)", desk.search(0, 2), NONE);
        Check.due("fewer tries", desk.count(3) < 1000 ? 1 : 0, 1);
    }

    private static void lateWaysOfTwo(FoldDesk desk, boolean lastOver) {
        desk.sheet(3);
        desk.punch(1, 1, 2);
        desk.punch(1, 1, 1);
        desk.punch(1, 0, 1);
        desk.fold(2, 2, false, true);
        desk.fold(1, 1, true, lastOver);
        desk.keep(0);
        desk.undo();
        desk.undo();
    }

    private static void thousandTriesOfTwoFolds() {
        FoldDesk desk = new FoldDesk();
        lateWaysOfTwo(desk, true);
        Check.due("search(0, 2), the 1000th try", desk.search(0, 2), 2);
        Check.due("count(3)", desk.count(3), 1000);
        lateWaysOfTwo(desk, false);
        Check.due("search(0, 2), the 1001st try", desk.search(0, 2), FULL);
        Check.due("count(3)", desk.count(3), 1000);
        Check.due("search(0, 1)", desk.search(0, 1), NONE);
        Check.due("count(3)", desk.count(3), 56);
    }

    /** "THE LOG's room is not asked" */
    private static void searchAsksForNoRoom() {
        FoldDesk desk = new FoldDesk();
        holed(desk);
        desk.fold(0, 1, false, true);
        desk.fold(2, 3, false, true);
        desk.keep(0);
        desk.undo();
        desk.undo();
        desk.open();
        Check.fill(desk, 300);
        Check.due("fold(0, 1, false, true)", desk.fold(0, 1, false, true), FULL);
        Check.due("search(0, 2)", desk.search(0, 2), 2);
        Check.due("count(2)", desk.count(2), 300);
        Check.due("undo()", desk.undo(), 299);
        desk.turn();
        Check.due("turn()", desk.turn(), FULL);
    }

    /** The view of now is shape 1; a search for it ends at once, and leaves neither tries nor a way. */
    private static void allIsAsItWas(String name, Told.Calls ahead, int most, int answer) {
        FoldDesk desk = new FoldDesk();
        ahead.on(desk);
        Check.due("search(0, " + most + ") " + name, desk.search(0, most), answer);
        Check.unchanged("search(0, " + most + ") " + name, d -> {
            ahead.on(d);
            d.keep(1);
        }, d -> {
            d.search(0, most);
            return d.search(1, 1);
        });
    }

    /** "all is as it was then" */
    private static void allIsAsItWasBehindSearch() {
        allIsAsItWas("of a way", d -> lateWays(d, true), 3, 3);
        allIsAsItWas("that is full", d -> lateWays(d, false), 3, FULL);
        allIsAsItWas("of no way", d -> lateWays(d, true), 2, NONE);
        allIsAsItWas("at the table's edge", ShapeEdgeTest::strip, 1, NONE);
        allIsAsItWas("of a thick paper", d -> {
            d.sheet(8);
            d.keep(0);
            d.fold(0, 4, true, true);
            d.fold(1, 4, false, false);
            d.punch(1, 5, 2);
            Text.put(d, "turn;");
        }, 2, FULL);
    }

    // ---- Promise 22: "Of fold() i of the way that the latest search() told (not one of RANGE) .. NONE when there is none
    // such, or for another what."

    private static void foundIsOfTheWay() {
        FoldDesk desk = new FoldDesk();
        lateWays(desk, true);
        Check.due("search(0, 3)", desk.search(0, 3), 3);
        Check.due("found(0, 0)", desk.found(0, 0), 0);
        Check.due("found(2, 0)", desk.found(2, 0), 3);
        int[] wrong = {-1, 3, 4, LEAST, GREATEST};
        for (int i : wrong) {
            for (int what = 0; what < 4; what++) {
                Check.due("found(" + i + ", " + what + ")", desk.found(i, what), NONE);
            }
        }
        desk.fold(0, 1, true, true);
        desk.keep(1);
        desk.undo();
        Check.due("search(1, 3)", desk.search(1, 3), 1);
        Check.due("found(0, 1)", desk.found(0, 1), 1);
        Check.due("found(1, 0) of a way of one", desk.found(1, 0), NONE);
        // What is done later does not change it.
        desk.sheet(5);
        desk.turn();
        Check.due("found(0, 1)", desk.found(0, 1), 1);
    }

    private static void foundWhatIsFromNoughtToThree() {
        FoldDesk desk = new FoldDesk();
        Check.used(desk);
        int[] want = {2, 1, 0, 1};
        for (int what = 0; what < 4; what++) {
            Check.due("found(0, " + what + ")", desk.found(0, what), want[what]);
        }
        int[] wrong = {-1, 4, LEAST, GREATEST};
        for (int what : wrong) {
            Check.due("found(0, " + what + ")", desk.found(0, what), NONE);
            Check.due("found(1, " + what + ")", desk.found(1, what), NONE);
        }
    }

    private static void foundBehindNoWay() {
        Told.Call[] searches = {d -> d.search(1, 1), d -> d.search(2, 1), d -> d.search(2, 3)};
        int[] answers = {0, NONE, FULL};
        for (int i = 0; i < searches.length; i++) {
            FoldDesk desk = Check.desk(8);
            desk.keep(2);
            desk.sheet(2);
            desk.fold(0, 1, true, true);
            desk.keep(0);
            desk.undo();
            desk.keep(1);
            Check.due("search(0, 1)", desk.search(0, 1), 1);
            Check.due("found(0, 1)", desk.found(0, 1), 1);
            Check.due("search without a way", searches[i].on(desk), answers[i]);
            for (int what = 0; what < 4; what++) {
                Check.due("found(0, " + what + ") without a way", desk.found(0, what), NONE);
            }
        }
    }

    private static void foundStaysBehindRange() {
        FoldDesk desk = new FoldDesk();
        Check.used(desk);
        Check.due("search(3, 4)", desk.search(3, 4), RANGE);
        Check.due("search(3, 0)", desk.search(3, 0), RANGE);
        Check.due("search(6, 1)", desk.search(6, 1), RANGE);
        Check.due("search(0, 1)", desk.search(0, 1), RANGE);
        Check.due("found(0, 0)", desk.found(0, 0), 2);
        Check.due("found(0, 1)", desk.found(0, 1), 1);
        Check.due("found(1, 0)", desk.found(1, 0), NONE);
    }
}
