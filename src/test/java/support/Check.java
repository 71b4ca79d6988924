/** Counts the answers that are not the ones that are due. */
final class Check {
    private static int wrong;

    private Check() { }

    static void due(String call, int got, int want) {
        if (got != want) {
            wrong++;
            System.out.println(call + " answered " + got + ", due is " + want);
        }
    }

    /** A call behind others: it is answered so, and nothing else is told by the object then than ahead of it. */
    static void refused(String call, Told.Calls ahead, Told.Call refused, int want) {
        FoldDesk desk = new FoldDesk();
        ahead.on(desk);
        due(call, refused.on(desk), want);
        unchanged(call, ahead, refused);
    }

    static void unchanged(String call, Told.Calls ahead, Told.Call last) {
        String other = Told.behind(desk -> {
            ahead.on(desk);
            last.on(desk);
        }).otherThan(Told.behind(ahead));
        if (other != null) {
            wrong++;
            System.out.println(call + " has changed something: " + other);
        }
    }

    /** A desk with something of everything: layers, a hole, a shape, a way that was found, a fault and a tape. */
    static void used(FoldDesk desk) {
        desk.sheet(2);
        desk.fold(2, 1, false, true);
        desk.keep(3);
        desk.undo();
        desk.search(3, 1);
        Text.run(desk, "turn; nonsense");
        desk.fold(0, 1, true, true);
        desk.punch(0, 1, 3);
        Text.put(desk, "quarter; turn;");
    }

    /** A desk whose triangles are all gone, sixteen entries of its log being punches. */
    static void bare(FoldDesk desk) {
        desk.sheet(2);
        for (int f = 0; f < 16; f++) {
            desk.punch(f / 4 % 2, f / 8, f % 4);
        }
    }

    /** Fills the log up to so many entries by turns; an even number of turns leaves all as it was. */
    static void fill(FoldDesk desk, int entries) {
        int turns = entries - desk.count(2);
        Text.run(desk, (turns < 6 ? "" : "repeat " + turns / 6 + "{repeat 6{turn;}}") + Text.times("turn;", turns % 6));
        due("count(2) of a log that was filled", desk.count(2), entries);
    }

    /** Ends the test, with exit code 1 if an answer was wrong. */
    static void end() {
        if (wrong > 0) {
            System.exit(1);
        }
    }

    /** A new desk with a paper of n by n squares. */
    static FoldDesk desk(int n) {
        FoldDesk desk = new FoldDesk();
        due("sheet(" + n + ")", desk.sheet(n), n);
        return desk;
    }

    /** Where a triangle lies: its x, y, q, 1 for face up, and its layer. */
    static void lies(FoldDesk desk, int f, int x, int y, int q, int face, int layer) {
        int[] want = {1, x, y, q, face, layer};
        for (int what = 0; what < want.length; what++) {
            due("triangle(" + f + ", " + what + ")", desk.triangle(f, what), want[what]);
        }
    }

    /** The layers of a cell, the lowest first. */
    static void layers(FoldDesk desk, int x, int y, int q, int... want) {
        String cell = x + ", " + y + ", " + q;
        due("cell(" + cell + ", 0)", desk.cell(x, y, q, 0), want.length);
        for (int k = 0; k < want.length; k++) {
            due("layer(" + cell + ", " + k + ")", desk.layer(x, y, q, k), want[k]);
        }
        due("layer(" + cell + ", " + want.length + ")", desk.layer(x, y, q, want.length), FoldDesk.NONE);
    }

    /** An entry of the log: what it is, its seven numbers and its answer. */
    static void entry(FoldDesk desk, int i, int... want) {
        for (int what = 0; what < 9; what++) {
            due("log(" + i + ", " + what + ")", desk.log(i, what), want[what]);
        }
    }

    /** The faults of the latest diagram: fault, place, answer, steps. */
    static void faults(FoldDesk desk, String text, int... want) {
        for (int what = 0; what < want.length; what++) {
            due("fault(" + what + ") of '" + text + "'", desk.fault(what), want[what]);
        }
    }
}
