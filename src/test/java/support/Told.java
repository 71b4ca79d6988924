import java.util.ArrayList;
import java.util.List;

/** All that an object tells behind some calls, so that two such tellings can be held against each other. */
final class Told {
    /** Some calls on an object. */
    interface Calls {
        void on(FoldDesk desk);
    }

    /** One call on an object, and what it answers. */
    interface Call {
        int on(FoldDesk desk);
    }

    /** An object is used for 512 calls; the others are left to those that come ahead of the questions. */
    private static final int MOST_QUESTIONS = 300;
    /** So many entries of the log are taken back one by one, to see what lay ahead of each. */
    private static final int MOST_UNDONE = 4;

    private final List<String> names = new ArrayList<>();
    private final List<Integer> answers = new ArrayList<>();
    private Calls ahead;
    private FoldDesk desk;
    private int asked;

    private Told() { }

    static Told behind(Calls calls) {
        Told told = new Told();
        told.makeNew(calls);
        int n = told.ask("count(0)", d -> d.count(0));
        int entries = told.ask("count(2)", d -> d.count(2));
        told.askTriangles(n);
        told.askPaper(n);
        told.askRest(entries);
        told.askTape(calls);
        for (int i = 1; i <= Math.min(entries, MOST_UNDONE); i++) {
            int undos = i;
            told.makeNew(d -> {
                calls.on(d);
                for (int k = 0; k < undos; k++) {
                    d.undo();
                }
            });
            told.askTriangles(n);
        }
        return told;
    }

    /** The first question that the other answers in another way; null when there is none. */
    String otherThan(Told other) {
        for (int i = 0; i < names.size() && i < other.names.size(); i++) {
            if (!names.get(i).equals(other.names.get(i)) || !answers.get(i).equals(other.answers.get(i))) {
                return names.get(i) + " is " + answers.get(i) + ", it was " + other.answers.get(i);
            }
        }
        return names.size() == other.names.size() ? null : "there is more or less to be asked";
    }

    private void makeNew(Calls calls) {
        ahead = calls;
        desk = new FoldDesk();
        calls.on(desk);
        asked = 0;
    }

    private int ask(String name, Call question) {
        if (asked >= MOST_QUESTIONS) {
            makeNew(ahead);
        }
        asked++;
        int answer = question.on(desk);
        names.add(name);
        answers.add(answer);
        return answer;
    }

    private void askTriangles(int n) {
        for (int i = 0; i < 4 * n * n; i++) {
            int f = i;
            int[] lies = new int[6];
            for (int k = 0; k < 6; k++) {
                int what = k;
                lies[k] = ask("triangle(" + f + ", " + what + ")", d -> d.triangle(f, what));
            }
            if (lies[0] == 1) {
                askCell(lies[1], lies[2], lies[3], lies[5]);
            }
        }
    }

    private void askCell(int x, int y, int q, int layer) {
        String cell = x + ", " + y + ", " + q;
        for (int k = 0; k < 5; k++) {
            int what = k;
            ask("cell(" + cell + ", " + what + ")", d -> d.cell(x, y, q, what));
        }
        ask("layer(" + cell + ", " + layer + ")", d -> d.layer(x, y, q, layer));
    }

    private void askPaper(int n) {
        for (int i = 0; i < 4 * n * n; i++) {
            int f = i;
            for (int k = 0; k < 3; k++) {
                int e = k;
                ask("side(" + f + ", " + e + ")", d -> d.side(f, e));
            }
            ask("piece(" + f + ")", d -> d.piece(f));
        }
        for (int i = 0; i < 8 * n * n; i++) {
            int x = i / 8 % n;
            int y = i / 8 / n;
            boolean centre = i % 8 < 4;
            int what = i % 4;
            ask("point(" + x + ", " + y + ", " + centre + ", " + what + ")", d -> d.point(x, y, centre, what));
        }
        ask("pieces()", FoldDesk::pieces);
    }

    private void askRest(int entries) {
        for (int i = 0; i < 8; i++) {
            int k = i;
            ask("view(" + k + ")", d -> d.view(k));
            ask("count(" + k + ")", d -> d.count(k));
            ask("alike(" + k + ")", d -> d.alike(k));
            ask("fault(" + k + ")", d -> d.fault(k));
        }
        for (int i = 0; i < 12; i++) {
            int fold = i / 4;
            int what = i % 4;
            ask("found(" + fold + ", " + what + ")", d -> d.found(fold, what));
        }
        for (int i = 0; i < 9 * (entries + 1); i++) {
            int entry = i / 9;
            int what = i % 9;
            ask("log(" + entry + ", " + what + ")", d -> d.log(entry, what));
        }
    }

    /** What stands on the tape is seen by what it does. */
    private void askTape(Calls calls) {
        makeNew(calls);
        ask("diagram() of the tape", FoldDesk::diagram);
        for (int i = 0; i < 4; i++) {
            int what = i;
            ask("fault(" + what + ") behind it", d -> d.fault(what));
        }
        ask("count(2) behind it", d -> d.count(2));
    }
}
