import java.util.ArrayList;
import java.util.List;

/** A FoldDesk and the Model side by side: each call goes to both, and both must answer alike. */
final class Both {
    final FoldDesk desk = new FoldDesk();
    final Model model = new Model();
    final String name;
    final List<String> calls = new ArrayList<>();
    int wrong;

    Both(String name) {
        this.name = name;
    }

    private int same(String call, int got, int want) {
        calls.add(call + " = " + got);
        if (got != want) {
            wrong++;
            if (wrong == 1) {
                System.out.println(name + ": " + call + " answered " + got + ", due is " + want + "; ahead of it:");
                for (String line : calls) {
                    System.out.println("    " + line);
                }
            }
        }
        return got;
    }

    int sheet(int n) {
        return same("sheet(" + n + ")", desk.sheet(n), model.sheet(n));
    }

    int fold(int kind, int c, boolean high, boolean over) {
        return same("fold(" + kind + ", " + c + ", " + high + ", " + over + ")",
                desk.fold(kind, c, high, over), model.fold(kind, c, high, over));
    }

    int flap(int kind, int c, boolean high, boolean over, int x, int y, int q) {
        return same("flap(" + kind + ", " + c + ", " + high + ", " + over + ", " + x + ", " + y + ", " + q + ")",
                desk.flap(kind, c, high, over, x, y, q), model.flap(kind, c, high, over, x, y, q));
    }

    int cut(int kind, int c, boolean high) {
        return same("cut(" + kind + ", " + c + ", " + high + ")", desk.cut(kind, c, high), model.cut(kind, c, high));
    }

    int punch(int x, int y, int q) {
        return same("punch(" + x + ", " + y + ", " + q + ")", desk.punch(x, y, q), model.punch(x, y, q));
    }

    int turn() {
        return same("turn()", desk.turn(), model.turn());
    }

    int quarter() {
        return same("quarter()", desk.quarter(), model.quarter());
    }

    int open() {
        return same("open()", desk.open(), model.open());
    }

    int undo() {
        return same("undo()", desk.undo(), model.undo());
    }

    int triangle(int f, int what) {
        return same("triangle(" + f + ", " + what + ")", desk.triangle(f, what), model.triangle(f, what));
    }

    int cell(int x, int y, int q, int what) {
        return same("cell(" + x + ", " + y + ", " + q + ", " + what + ")", desk.cell(x, y, q, what), model.cell(x, y, q, what));
    }

    int layer(int x, int y, int q, int k) {
        return same("layer(" + x + ", " + y + ", " + q + ", " + k + ")", desk.layer(x, y, q, k), model.layer(x, y, q, k));
    }

    int side(int f, int e) {
        return same("side(" + f + ", " + e + ")", desk.side(f, e), model.side(f, e));
    }

    int point(int x, int y, boolean centre, int what) {
        return same("point(" + x + ", " + y + ", " + centre + ", " + what + ")",
                desk.point(x, y, centre, what), model.point(x, y, centre, what));
    }

    int pieces() {
        return same("pieces()", desk.pieces(), model.pieces());
    }

    int piece(int f) {
        return same("piece(" + f + ")", desk.piece(f), model.piece(f));
    }

    int view(int what) {
        return same("view(" + what + ")", desk.view(what), model.view(what));
    }

    int keep(int k) {
        return same("keep(" + k + ")", desk.keep(k), model.keep(k));
    }

    int alike(int k) {
        return same("alike(" + k + ")", desk.alike(k), model.alike(k));
    }

    int search(int k, int most) {
        return same("search(" + k + ", " + most + ")", desk.search(k, most), model.search(k, most));
    }

    int found(int i, int what) {
        return same("found(" + i + ", " + what + ")", desk.found(i, what), model.found(i, what));
    }

    int feed(int a, int b, int c, int d, int e) {
        return same("feed(" + a + ", " + b + ", " + c + ", " + d + ", " + e + ")",
                desk.feed(a, b, c, d, e), model.feed(a, b, c, d, e));
    }

    int end(int n) {
        return same("end(" + n + ")", desk.end(n), model.end(n));
    }

    int diagram() {
        return same("diagram()", desk.diagram(), model.diagram());
    }

    int fault(int what) {
        return same("fault(" + what + ")", desk.fault(what), model.fault(what));
    }

    int log(int i, int what) {
        return same("log(" + i + ", " + what + ")", desk.log(i, what), model.log(i, what));
    }

    int count(int what) {
        return same("count(" + what + ")", desk.count(what), model.count(what));
    }

    /** Puts a text on the tape, and tells what the diagram answers. */
    int run(String text) {
        calls.add("the text: " + text);
        int length = count(4);
        for (int i = 0; i < text.length(); i += 20) {
            int[] five = Text.five(text, i);
            feed(five[0], five[1], five[2], five[3], five[4]);
        }
        end(length + text.length());
        int answer = diagram();
        for (int what = 0; what < 4; what++) {
            fault(what);
        }
        return answer;
    }

    /** Asks for all that lies. */
    void compareAll() {
        int n = model.n;
        for (int f = 0; f < 4 * n * n; f++) {
            for (int what = 0; what < 6; what++) {
                triangle(f, what);
            }
            for (int e = 0; e < 3; e++) {
                side(f, e);
            }
            piece(f);
        }
        for (int x = 0; x < n; x++) {
            for (int y = 0; y < n; y++) {
                for (int what = 0; what < 4; what++) {
                    point(x, y, true, what);
                    point(x, y, false, what);
                }
            }
        }
        for (int what = 0; what < 8; what++) {
            view(what);
        }
        for (int what = 0; what < 6; what++) {
            count(what);
        }
        pieces();
        compareCells();
    }

    private void compareCells() {
        for (int x = -8; x < 16; x++) {
            for (int y = -8; y < 16; y++) {
                for (int q = 0; q < 4; q++) {
                    int height = cell(x, y, q, 0);
                    for (int what = 1; what < 5; what++) {
                        cell(x, y, q, what);
                    }
                    for (int k = 0; k < height; k++) {
                        layer(x, y, q, k);
                    }
                }
            }
        }
    }
}
