import java.util.ArrayList;
import java.util.List;
import java.util.Random;

/** A FoldDesk and the Model side by side: each call goes to both, and both must answer alike. */
final class Both {
    final FoldDesk desk = new FoldDesk();
    final Model model = new Model();
    final String name;
    final List<String> calls = new ArrayList<>();
    int wrong;
    /** How often the object was called; beyond 512 its answers are free. */
    int asked;

    Both(String name) {
        this.name = name;
    }

    int left() {
        return 512 - asked;
    }

    private int same(String call, int got, int want) {
        asked++;
        calls.add(call + " = " + got);
        if (got != want) {
            wrong++;
            if (wrong == 1) {
                System.out.println(name + ": " + call + " answered " + got + ", due is " + want + "; ahead of it:");
                for (String line : calls) {
                    System.out.println("    " + line);
                }
            }
        }
        return got;
    }

    int sheet(int n) {
        return same("sheet(" + n + ")", desk.sheet(n), model.sheet(n));
    }

    int fold(int kind, int c, boolean high, boolean over) {
        return same("fold(" + kind + ", " + c + ", " + high + ", " + over + ")",
                desk.fold(kind, c, high, over), model.fold(kind, c, high, over));
    }

    int flap(int kind, int c, boolean high, boolean over, int x, int y, int q) {
        return same("flap(" + kind + ", " + c + ", " + high + ", " + over + ", " + x + ", " + y + ", " + q + ")",
                desk.flap(kind, c, high, over, x, y, q), model.flap(kind, c, high, over, x, y, q));
    }

    int cut(int kind, int c, boolean high) {
        return same("cut(" + kind + ", " + c + ", " + high + ")", desk.cut(kind, c, high), model.cut(kind, c, high));
    }

    int punch(int x, int y, int q) {
        return same("punch(" + x + ", " + y + ", " + q + ")", desk.punch(x, y, q), model.punch(x, y, q));
    }

    int turn() {
        return same("turn()", desk.turn(), model.turn());
    }

    int quarter() {
        return same("quarter()", desk.quarter(), model.quarter());
    }

    int open() {
        return same("open()", desk.open(), model.open());
    }

    int undo() {
        return same("undo()", desk.undo(), model.undo());
    }

    int triangle(int f, int what) {
        return same("triangle(" + f + ", " + what + ")", desk.triangle(f, what), model.triangle(f, what));
    }

    int cell(int x, int y, int q, int what) {
        return same("cell(" + x + ", " + y + ", " + q + ", " + what + ")", desk.cell(x, y, q, what), model.cell(x, y, q, what));
    }

    int layer(int x, int y, int q, int k) {
        return same("layer(" + x + ", " + y + ", " + q + ", " + k + ")", desk.layer(x, y, q, k), model.layer(x, y, q, k));
    }

    int side(int f, int e) {
        return same("side(" + f + ", " + e + ")", desk.side(f, e), model.side(f, e));
    }

    int point(int x, int y, boolean centre, int what) {
        return same("point(" + x + ", " + y + ", " + centre + ", " + what + ")",
                desk.point(x, y, centre, what), model.point(x, y, centre, what));
    }

    int pieces() {
        return same("pieces()", desk.pieces(), model.pieces());
    }

    int piece(int f) {
        return same("piece(" + f + ")", desk.piece(f), model.piece(f));
    }

    int view(int what) {
        return same("view(" + what + ")", desk.view(what), model.view(what));
    }

    int keep(int k) {
        return same("keep(" + k + ")", desk.keep(k), model.keep(k));
    }

    int alike(int k) {
        return same("alike(" + k + ")", desk.alike(k), model.alike(k));
    }

    int search(int k, int most) {
        return same("search(" + k + ", " + most + ")", desk.search(k, most), model.search(k, most));
    }

    int found(int i, int what) {
        return same("found(" + i + ", " + what + ")", desk.found(i, what), model.found(i, what));
    }

    int feed(int a, int b, int c, int d, int e) {
        return same("feed(" + a + ", " + b + ", " + c + ", " + d + ", " + e + ")",
                desk.feed(a, b, c, d, e), model.feed(a, b, c, d, e));
    }

    int end(int n) {
        return same("end(" + n + ")", desk.end(n), model.end(n));
    }

    int diagram() {
        return same("diagram()", desk.diagram(), model.diagram());
    }

    int fault(int what) {
        return same("fault(" + what + ")", desk.fault(what), model.fault(what));
    }

    int log(int i, int what) {
        return same("log(" + i + ", " + what + ")", desk.log(i, what), model.log(i, what));
    }

    int count(int what) {
        return same("count(" + what + ")", desk.count(what), model.count(what));
    }

    /** Puts a text on the tape, and tells what the diagram answers. */
    int run(String text) {
        calls.add("the text: " + text);
        int length = count(4);
        for (int i = 0; i < text.length(); i += 20) {
            int[] five = Text.five(text, i);
            feed(five[0], five[1], five[2], five[3], five[4]);
        }
        end(length + text.length());
        int answer = diagram();
        for (int what = 0; what < 4; what++) {
            fault(what);
        }
        return answer;
    }

    /** Asks for this and that which lies, with so many calls at the most. */
    void compareSome(Random random, int most) {
        int end = asked + most;
        while (end - asked > 10) {
            int f = random.nextInt(model.first.length);
            int which = random.nextInt(20);
            if (which < 7) {
                compareTriangle(f);
            } else if (which < 11) {
                compareCell(f);
            } else if (which < 14) {
                compareSides(f);
            } else if (which < 18) {
                comparePoint(random);
            } else {
                view(random.nextInt(8));
                count(random.nextInt(6));
                pieces();
            }
        }
    }

    private void compareTriangle(int f) {
        for (int what = 0; what < 6; what++) {
            triangle(f, what);
        }
    }

    private void compareSides(int f) {
        for (int e = 0; e < 3; e++) {
            side(f, e);
        }
        piece(f);
    }

    private void comparePoint(Random random) {
        int x = random.nextInt(model.n);
        int y = random.nextInt(model.n);
        boolean centre = random.nextBoolean();
        for (int what = 0; what < 4; what++) {
            point(x, y, centre, what);
        }
    }

    /** The cell on which a triangle lies, or on which it lay at first. */
    private void compareCell(int f) {
        boolean there = model.triangle(f, 0) == 1;
        int x = there ? model.triangle(f, 1) : f / 4 % model.n;
        int y = there ? model.triangle(f, 2) : f / 4 / model.n;
        int q = there ? model.triangle(f, 3) : f % 4;
        int height = cell(x, y, q, 0);
        for (int what = 1; what < 5; what++) {
            cell(x, y, q, what);
        }
        layer(x, y, q, height - 1);
        layer(x, y, q, height / 2);
    }
}
