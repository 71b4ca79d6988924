import java.util.ArrayList;
import java.util.List;
import java.util.Random;

/** Many runs of calls, made by a fixed seed each, in which FoldDesk must answer all as the Model does. */
public final class ModelTest {
    /** So many of an object's 512 calls are kept for what lies at the end. */
    private static final int RESERVED = 100;

    private final Random random;
    private final Both both;

    private ModelTest(int seed) {
        random = new Random(seed);
        both = new Both("run " + seed);
    }

    private int any(int least, int most) {
        return least + random.nextInt(most - least + 1);
    }

    /** Mostly from the first range, now and then from the farther one. */
    private int mostly(int least, int most, int farLeast, int farMost) {
        return random.nextInt(12) == 0 ? any(farLeast, farMost) : any(least, most);
    }

    private boolean coin() {
        return random.nextBoolean();
    }

    private int line(int kind) {
        int[] box = {both.model.view(4), both.model.view(5), both.model.view(6), both.model.view(7)};
        int low = kind == 0 ? box[0] : kind == 1 ? box[2] : kind == 2 ? box[0] + box[2] : box[0] - box[3];
        int high = kind == 0 ? box[1] : kind == 1 ? box[3] : kind == 2 ? box[1] + box[3] : box[1] - box[2];
        return mostly(low, high + 1, -34, 34);
    }

    /** A cell with something on it, or any. */
    private int[] cell() {
        if (random.nextInt(8) != 0) {
            int f = any(0, both.model.first.length - 1);
            if (both.model.triangle(f, 0) == 1) {
                return new int[] {both.model.triangle(f, 1), both.model.triangle(f, 2), both.model.triangle(f, 3)};
            }
        }
        return new int[] {any(-9, 16), any(-9, 16), any(-1, 4)};
    }

    private void act() {
        int kind = mostly(0, 3, -1, 4);
        int c = line(kind);
        int[] cell = cell();
        int which = any(0, 99);
        if (which < 35) {
            both.fold(kind, c, coin(), coin());
        } else if (which < 75) {
            boolean high = random.nextInt(6) == 0 ? coin()
                    : Model.isCell(cell[0], cell[1], cell[2]) && Model.high(kind, c, Model.middle(cell[0], cell[1], cell[2]));
            both.flap(kind, c, high, coin(), cell[0], cell[1], cell[2]);
        } else if (which < 78) {
            both.cut(kind, c, coin());
        } else if (which < 83) {
            both.punch(cell[0], cell[1], cell[2]);
        } else if (which < 87) {
            both.turn();
        } else if (which < 91) {
            both.quarter();
        } else if (which < 93) {
            both.open();
        } else {
            both.undo();
        }
    }

    private void lookAround() {
        int[] cell = cell();
        switch (any(0, 9)) {
            case 0:
                both.triangle(any(-2, both.model.first.length + 1), any(-1, 7));
                break;
            case 1:
                both.cell(cell[0], cell[1], cell[2], any(-1, 6));
                break;
            case 2:
                both.layer(cell[0], cell[1], cell[2], any(-1, 5));
                break;
            case 3:
                both.side(any(-2, both.model.first.length + 1), any(-1, 3));
                break;
            case 4:
                both.point(any(-1, both.model.n + 1), any(-1, both.model.n + 1), coin(), any(-1, 4));
                break;
            case 5:
                both.piece(any(-2, both.model.first.length + 1));
                break;
            case 6:
                both.view(any(-1, 9));
                break;
            case 7:
                both.log(any(-1, both.model.log.size() + 1), any(-1, 10));
                break;
            case 8:
                both.count(any(-1, 7));
                break;
            default:
                both.found(any(-1, 3), any(-1, 4));
                break;
        }
    }

    private void shapes() {
        switch (any(0, 3)) {
            case 0:
                both.keep(any(-1, 6));
                break;
            case 1:
                both.alike(any(-1, 6));
                break;
            case 2:
                search(any(-1, 6), mostly(1, 2, 0, 4));
                break;
            default:
                searchForWay();
                break;
        }
    }

    private void search(int k, int most) {
        both.search(k, most);
        both.count(3);
        for (int i = 0; i < 4; i++) {
            for (int what = 0; what < 4; what++) {
                both.found(i, what);
            }
        }
    }

    /** Keeps what a few folds make, takes them back, and looks for a way there. */
    private void searchForWay() {
        int k = any(0, 5);
        int folds = 0;
        for (int i = 0; i < 12 && folds < 2; i++) {
            int kind = any(0, 3);
            folds += both.fold(kind, line(kind), coin(), coin()) > 0 ? 1 : 0;
        }
        int turns = any(0, 3);
        int turned = 0;
        for (int i = 0; i < turns; i++) {
            turned += both.quarter() > 0 ? 1 : 0;
        }
        both.keep(k);
        for (int i = 0; i < turned; i++) {
            both.undo();
            both.alike(k);
        }
        for (int i = 0; i < folds; i++) {
            both.undo();
        }
        search(k, any(1, 3));
    }

    // ---- texts

    private String pick(String... texts) {
        return texts[random.nextInt(texts.length)];
    }

    private final List<String> told = new ArrayList<>();

    private String newName() {
        String name = pick("", "petal", "move", "fold", "abcdefgh") + (char) any('a', 'z') + (char) any('a', 'z');
        told.add(name);
        return random.nextInt(12) == 0 ? pick("a", "b") : name;
    }

    private String oldName() {
        return told.isEmpty() || random.nextInt(12) == 0 ? pick("a", "b") : told.get(random.nextInt(told.size()));
    }

    private String step(int depth) {
        String line = pick("x", "y", "sum", "diff") + pick(" ", "", "\n") + mostly(-1, 6, -34, 34);
        String cell = " " + mostly(0, 3, -34, 34) + " " + mostly(0, 3, -10, 20) + " " + mostly(0, 3, -1, 4);
        int which = any(0, depth < 9 ? 17 : 9);
        switch (which) {
            case 0:
            case 1:
            case 2:
                return pick("over ", "under ") + line + pick(" low", " high") + ";";
            case 3:
            case 4:
                return pick("over ", "under ") + line + pick(" low", " high") + " flap" + cell + pick(";", " ;\n");
            case 5:
                return "cut " + line + pick(" low", " high") + ";";
            case 6:
                return "punch" + cell + ";";
            case 7:
                return pick("turn", "quarter", "open") + ";";
            case 8:
                return "do " + oldName() + ";";
            case 9:
                return "thick " + mostly(1, 20, -2, 300) + ";";
            case 10:
            case 11:
                return "repeat " + mostly(1, 6, -1, 52) + block(depth);
            case 12:
            case 13:
            case 14:
                return "move " + newName() + block(depth);
            default:
                return "try" + block(depth);
        }
    }

    private String block(int depth) {
        return pick(" {", "{ ") + steps(any(0, 3), depth + 1) + pick("}", " } ");
    }

    private String steps(int number, int depth) {
        StringBuilder text = new StringBuilder();
        for (int i = 0; i < number && text.length() < 1500; i++) {
            text.append(step(depth)).append(pick("", " ", "\n"));
        }
        return text.toString();
    }

    private String spoilt(String text) {
        if (text.isEmpty()) {
            return text;
        }
        int at = random.nextInt(text.length());
        switch (any(0, 3)) {
            case 0:
                return text.substring(0, at);
            case 1:
                return text.substring(0, at) + text.substring(at + 1);
            case 2:
                return text.substring(0, at) + pick(";", "{", "}", "-", "x", "7", "flap", "\t", "Z", "\u00ff") + text.substring(at);
            default:
                return text.substring(0, at) + (char) any(0, 255) + text.substring(at + 1);
        }
    }

    /** Moves in or behind one another, about as many as there is room for. */
    private String manyMoves() {
        StringBuilder text = new StringBuilder();
        int open = 0;
        for (int i = any(15, 24); i > 0; i--) {
            text.append("move ").append((char) ('a' + i)).append(pick("", "", "", "a")).append("{").append(pick("", "turn;"));
            open++;
            while (open > 0 && (open == 8 || random.nextInt(3) > 0)) {
                text.append("}");
                open--;
            }
        }
        return text.append("}".repeat(open)).append(pick("", "do b;", "do c;")).toString();
    }

    private void text() {
        told.clear();
        String text = random.nextInt(20) == 0 ? manyMoves() : steps(any(0, 8), 0);
        if (random.nextInt(3) == 0) {
            text = spoilt(text);
        }
        // Each twenty bytes are a call, and seven more come with them.
        if (text.length() / 20 + 8 + RESERVED <= both.left()) {
            both.run(text);
        }
    }

    private int go() {
        both.sheet(any(2, random.nextInt(6) == 0 ? 8 : 5));
        for (int i = 0; i < 60 && both.wrong == 0 && both.left() > RESERVED + 60; i++) {
            int which = any(0, 99);
            if (which < 50) {
                act();
            } else if (which < 75) {
                lookAround();
            } else if (which < 83) {
                shapes();
            } else if (which < 98) {
                text();
            } else {
                both.sheet(any(1, 9));
            }
            if (i % 10 == 9) {
                both.compareSome(random, 20);
            }
        }
        both.compareSome(random, both.left());
        return both.wrong;
    }

    public static void main(String[] args) {
        int runs = args.length > 0 ? Integer.parseInt(args[0]) : 800;
        int from = args.length > 1 ? Integer.parseInt(args[1]) : 0;
        int wrong = 0;
        for (int seed = from; seed < from + runs && wrong < 3; seed++) {
            wrong += new ModelTest(seed).go() > 0 ? 1 : 0;
        }
        if (wrong > 0) {
            System.exit(1);
        }
    }
}
