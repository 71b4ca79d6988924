/** Counts the answers that are not the ones that are due. */
final class Check {
    private static int wrong;

    private Check() { }

    static void due(String call, int got, int want) {
        if (got != want) {
            wrong++;
            System.out.println(call + " answered " + got + ", due is " + want);
        }
    }

    /** Ends the test, with exit code 1 if an answer was wrong. */
    static void end() {
        if (wrong > 0) {
            System.exit(1);
        }
    }

    /** A new desk with a paper of n by n squares. */
    static FoldDesk desk(int n) {
        FoldDesk desk = new FoldDesk();
        due("sheet(" + n + ")", desk.sheet(n), n);
        return desk;
    }

    /** Where a triangle lies: its x, y, q, 1 for face up, and its layer. */
    static void lies(FoldDesk desk, int f, int x, int y, int q, int face, int layer) {
        int[] want = {1, x, y, q, face, layer};
        for (int what = 0; what < want.length; what++) {
            due("triangle(" + f + ", " + what + ")", desk.triangle(f, what), want[what]);
        }
    }

    /** The layers of a cell, the lowest first. */
    static void layers(FoldDesk desk, int x, int y, int q, int... want) {
        String cell = x + ", " + y + ", " + q;
        due("cell(" + cell + ", 0)", desk.cell(x, y, q, 0), want.length);
        for (int k = 0; k < want.length; k++) {
            due("layer(" + cell + ", " + k + ")", desk.layer(x, y, q, k), want[k]);
        }
        due("layer(" + cell + ", " + want.length + ")", desk.layer(x, y, q, want.length), FoldDesk.NONE);
    }

    /** An entry of the log: what it is, its seven numbers and its answer. */
    static void entry(FoldDesk desk, int i, int... want) {
        for (int what = 0; what < 9; what++) {
            due("log(" + i + ", " + what + ")", desk.log(i, what), want[what]);
        }
    }

    /** The faults of the latest diagram: fault, place, answer, steps. */
    static void faults(FoldDesk desk, String text, int... want) {
        for (int what = 0; what < want.length; what++) {
            due("fault(" + what + ") of '" + text + "'", desk.fault(what), want[what]);
        }
    }
}
