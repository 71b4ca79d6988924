/** Promises 25 and 26: diagrams, how they are read and run, and their faults. */
public final class DiagramTest {
    private static final int NONE = FoldDesk.NONE;
    private static final int SYNTAX = 1;
    private static final int NAME = 2;
    private static final int OUT_OF_RANGE = 3;
    private static final int ROOM = 4;
    private static final int STOPPED = 5;

    public static void main(String[] args) {
        actsAsTold();
        blanks();
        syntax();
        tokens();
        names();
        nestedNames();
        ranges();
        rooms();
        firstFaultCounts();
        repeats();
        moves();
        tries();
        thick();
        stops();
        manySteps();
        fullLog();
        wrongWhat();
        deepCalls();
        Check.end();
    }

    private static void good(FoldDesk desk, String text, int acts, int steps) {
        Check.due("diagram of '" + text + "'", Text.run(desk, text), acts);
        Check.faults(desk, text, 0, NONE, 0, steps);
        Check.due("count(4)", desk.count(4), 0);
    }

    private static void fault(FoldDesk desk, String text, int why, int place) {
        int entries = desk.count(2);
        Check.due("diagram of '" + text + "'", Text.run(desk, text), NONE);
        Check.faults(desk, text, why, place, 0, 0);
        Check.due("count(4)", desk.count(4), 0);
        Check.due("count(2)", desk.count(2), entries);
    }

    private static void stop(FoldDesk desk, String text, int place, int answer, int steps) {
        int entries = desk.count(2);
        Check.due("diagram of '" + text + "'", Text.run(desk, text), NONE);
        Check.faults(desk, text, STOPPED, place, answer, steps);
        Check.due("count(4)", desk.count(4), 0);
        Check.due("count(2)", desk.count(2), entries);
    }

    private static void good(String text, int acts, int steps) {
        good(Check.desk(2), text, acts, steps);
    }

    private static void fault(String text, int why, int place) {
        fault(Check.desk(2), text, why, place);
    }

    private static void stop(String text, int place, int answer, int steps) {
        stop(Check.desk(2), text, place, answer, steps);
    }

    private static void actsAsTold() {
        FoldDesk desk = Check.desk(2);
        good(desk, "", 0, 0);
        good(desk, "over x 1 high; over x 1 low flap 0 1 2; under diff 0 low; cut sum 1 low; punch 1 0 1;"
                + "turn; quarter; open;", 8, 8);
        Check.entry(desk, 0, 1, 0, 1, 1, 1, 0, 0, 0, 8);
        Check.entry(desk, 1, 2, 0, 1, 0, 1, 0, 1, 2, 8);
        Check.entry(desk, 2, 1, 3, 0, 0, 0, 0, 0, 0, 8);
        Check.entry(desk, 3, 3, 2, 1, 0, 0, 0, 0, 0, 2);
        Check.entry(desk, 4, 4, 1, 0, 1, 0, 0, 0, 0, 2);
        Check.entry(desk, 5, 5, 0, 0, 0, 0, 0, 0, 0, 12);
        Check.entry(desk, 6, 6, 0, 0, 0, 0, 0, 0, 0, 12);
        Check.entry(desk, 7, 7, 0, 0, 0, 0, 0, 0, 0, 12);
        Check.due("undo()", desk.undo(), 7);
        desk.sheet(2);
        good(desk, "under x 1 high; under x 1 low flap 0 1 3; over y 1 low; punch 1 1 -0;", 4, 4);
        Check.entry(desk, 0, 1, 0, 1, 1, 0, 0, 0, 0, 8);
        Check.entry(desk, 1, 2, 0, 1, 0, 0, 0, 1, 3, 8);
        Check.entry(desk, 2, 1, 1, 1, 0, 1, 0, 0, 0, 8);
        Check.entry(desk, 3, 4, 1, 1, 0, 0, 0, 0, 0, 2);
        good(desk, "turn;", 1, 1);
        Check.due("count(2)", desk.count(2), 5);
    }

    private static void blanks() {
        good("  turn \n;\n\n quarter;  ", 2, 2);
        good(" \n ", 0, 0);
        good("over x1high;over x1low flap0 0 0;", 2, 2);
        stop("over x 1 high;over x-1low flap-2-1 3;", 14, NONE, 2);
        fault("turn;\tturn;", SYNTAX, 5);
        fault("turn;\rturn;", SYNTAX, 5);
        fault("over x - 1 high;", SYNTAX, 7);
        fault("over x --1 high;", SYNTAX, 7);
        fault("over x 1-low;", SYNTAX, 8);
    }

    private static void syntax() {
        String[] wrongAtOnce = {"fold;", "x", ";", "}", "{", "1", "Turn;", "turnturn;", "turnturnturn;", "low;", "-", "\0"};
        for (String text : wrongAtOnce) {
            fault(text, SYNTAX, 0);
        }
        String[] wrongAtTheEnd = {"turn", "turn ", "over", "over x", "over x 1", "over x 1 high", "over x 1 high flap",
            "over x 1 high flap 0 0", "cut y 1 low", "punch 0 0 0", "repeat", "repeat 2", "repeat 2 {", "repeat 2 { turn; ",
            "move", "move a", "move a {", "do", "try", "try { turn; try { }", "thick", "thick 2"};
        for (String text : wrongAtTheEnd) {
            fault(text, SYNTAX, text.length());
        }
        // The wrong token stands behind the bar.
        String[] wrong = {"turn |turn;", "turn |1;", "turn;|;", "over |1", "over |low", "over x |high", "over x 1 |over",
            "over x 1 |;", "over x 1 high flap 0 0|;", "over x 1 high flap 0 0 0 |0;", "over x 1 high |high;",
            "cut x 1 high |flap 0 0 0;", "cut |low", "punch 0 0|;", "punch 0 0 0 |0;", "repeat |{", "repeat 2 |turn;",
            "repeat 2|;", "repeat 2 { turn; } |}", "repeat 2 { turn |}", "repeat |a {", "move |{ }", "move |1 { }",
            "move a|;", "do|;", "do |1;", "try|;", "try |turn;", "thick|;", "thick |a;", "turn;|#", "move a {} do a |{",
            "try { |; }", "turn|, turn;"};
        for (String text : wrong) {
            fault(text.replace("|", ""), SYNTAX, text.indexOf('|'));
        }
        String[] words = {"over", "under", "flap", "cut", "punch", "turn", "quarter", "open", "repeat", "move", "do", "try",
            "thick", "x", "y", "sum", "diff", "low", "high"};
        for (String word : words) {
            fault("move " + word + " {}", SYNTAX, 5);
            fault("do " + word + ";", SYNTAX, 3);
        }
    }

    private static void tokens() {
        good("move abcdefghij { } do abcdefghij;", 0, 2);
        fault("move abcdefghij { } do abcdefghik;", NAME, 23);
        fault("move abcdefghijk { }", SYNTAX, 5);
        fault("do abcdefghijk;", SYNTAX, 3);
        fault("thick 0016;", SYNTAX, 6);
        fault("thick 1000;", SYNTAX, 6);
        fault("over x -0001 high;", SYNTAX, 7);
        good("thick 016;", 0, 1);
        good("over x 001 high;", 1, 1);
        stop("thick -000;", 0, 0, 1);
    }

    private static void names() {
        fault("do a;", NAME, 3);
        fault("move a {} move a {}", NAME, 15);
        fault("move a { do a; }", NAME, 12);
        fault("do a; move a {}", NAME, 3);
        fault("move a {} do b;", NAME, 13);
        fault("move a {} do ab;", NAME, 13);
        fault("move a {} do aa;", NAME, 13);
        good("move ax {turn;} do ax;", 1, 3);
        good("move a {} do a;", 0, 2);
        good("move a {turn;} do a; do a;", 2, 5);
        good("move overx {turn;} do overx;", 1, 3);
        good("try { move a { turn; } } do a;", 1, 4);
        good("repeat 2 { move a { turn; } do a; }", 2, 7);
        good("move a { move b { turn; } } do b;", 1, 3);
        good("move a { turn; } move b { do a; do a; } do b;", 2, 7);
        good("move z { turn; }", 0, 1);
        // Moves of an earlier text are there no more.
        FoldDesk desk = Check.desk(2);
        good(desk, "move a {}", 0, 1);
        fault(desk, "do a;", NAME, 3);
        good(desk, "move a {}", 0, 1);
    }

    private static void nestedNames() {
        FoldDesk desk = Check.desk(2);
        good(desk, "move a { move a { turn; } quarter; } do a;", 1, 4);
        Check.due("log(0, 0)", desk.log(0, 0), 6);
        desk.sheet(2);
        good(desk, "move a { move a { turn; } do a; quarter; } do a;", 2, 6);
        Check.due("log(0, 0)", desk.log(0, 0), 5);
        Check.due("log(1, 0)", desk.log(1, 0), 6);
        fault("move a { move a { } move a { } }", NAME, 25);
    }

    private static void ranges() {
        String[] wrong = {"repeat |0 {}", "repeat |-1 {}", "repeat |51 {}", "repeat |999 {}", "over x |33 high;",
            "over x |-33 high;", "cut sum |33 high;", "punch |33 0 0;", "punch 0 |33 0;", "punch 0 0 |-33;",
            "over x 1 high flap |33 0 0;", "over x 1 high flap 0 |-33 0;", "under x 1 high flap 0 0 |33;", "thick |257;", "thick |-1;"};
        for (String text : wrong) {
            fault(text.replace("|", ""), OUT_OF_RANGE, text.indexOf('|'));
        }
        good("repeat 50 {}", 0, 1);
        good("repeat 1 {}", 0, 1);
        good("thick 256;", 0, 1);
        stop("thick 0;", 0, 0, 1);
        stop("over x 32 high;", 0, FoldDesk.NONE, 1);
        stop("over x -32 high;", 0, FoldDesk.STAYS, 1);
        stop("punch 32 0 0;", 0, FoldDesk.RANGE, 1);
        stop("punch 0 0 4;", 0, FoldDesk.RANGE, 1);
        stop("over x 1 high flap -32 0 0;", 0, FoldDesk.RANGE, 1);
    }

    private static void rooms() {
        StringBuilder moves = new StringBuilder();
        for (char name = 'a'; name < 'a' + 19; name++) {
            moves.append("move ").append(name).append("{}");
        }
        good(moves + "move t{}", 0, 20);
        // The 21st word move has the fault, whatever stands behind it; what comes ahead of it is told first.
        for (String rest : new String[] {"move u{}", "move a{}", "move x{}", "move 9", "move", "move{", "move;", "move #"}) {
            fault(moves + "move t{}" + rest, ROOM, 160);
        }
        fault(moves + "move t{move u{}}", ROOM, 159);
        fault(moves + "try{move t{}}\nmove u{}", ROOM, 166);
        fault(moves + "do a;move t{}do t;repeat 2{move u{}}", ROOM, 179);
        fault(moves + "move a{}", NAME, 157);
        fault(moves + "move move{}", SYNTAX, 157);
        fault(moves + "move t{}do move;", SYNTAX, 163);
        fault(moves + "move t{}turn move", SYNTAX, 165);
        fault(moves + "move t{}moves", SYNTAX, 160);
        good(moves + "move t{turn;}do t;do a;", 1, 23);
        FoldDesk desk = Check.desk(2);
        good(desk, moves + "move t{}", 0, 20);
        good(desk, moves + "move t{}", 0, 20);
        good(Text.times("try{", 8) + Text.times("}", 8), 0, 8);
        fault(Text.times("try{", 9) + Text.times("}", 9), ROOM, 35);
        fault(Text.times("try{", 8) + "try;", SYNTAX, 35);
        good(Text.times("try{", 8) + Text.times("}", 8) + "try{}", 0, 9);
        good(Text.times("turn;", 300), 300, 300);
        fault(Text.times("turn;", 301), ROOM, 1500);
        fault(Text.times("turn;", 300) + "x", SYNTAX, 1500);
        good("try{" + Text.times("turn;", 299) + "}", 299, 300);
        fault("try{" + Text.times("turn;", 300) + "}", ROOM, 1499);
    }

    private static void firstFaultCounts() {
        fault("thick 999; do a;", OUT_OF_RANGE, 6);
        fault("do a; #", NAME, 3);
        fault("thick 9; do a; thick 999;", NAME, 12);
        FoldDesk desk = Check.desk(2);
        fault(desk, "over x 1 high; fold", SYNTAX, 15);
        Check.due("view(1)", desk.view(1), 1);
        good(desk, "turn;", 1, 1);
    }

    private static void repeats() {
        good("repeat 3 { turn; quarter; }", 6, 7);
        good("repeat 2 { repeat 3 { turn; } }", 6, 9);
        good("repeat 2 { repeat 3 { } turn; } quarter;", 3, 6);
        FoldDesk desk = Check.desk(2);
        good(desk, "repeat 2 { turn; quarter; } open;", 5, 6);
        int[] acts = {5, 6, 5, 6, 7};
        for (int i = 0; i < acts.length; i++) {
            Check.due("log(" + i + ", 0)", desk.log(i, 0), acts[i]);
        }
    }

    private static void moves() {
        FoldDesk desk = Check.desk(2);
        good(desk, "move half { over x 1 high; } move both { do half; over y 1 high; } turn; turn; do both; thick 4;", 4, 9);
        Check.layers(desk, 0, 0, 0, 0, 4, 14, 10);
    }

    private static void tries() {
        FoldDesk desk = Check.desk(2);
        good(desk, "try { turn; over x 9 high; turn; } quarter;", 1, 4);
        Check.due("log(0, 0)", desk.log(0, 0), 6);
        Check.lies(desk, 0, 7, 0, 1, 1, 0);
        good("try { turn; } quarter;", 2, 3);
        good("try { turn; try { quarter; thick 0; } turn; }", 2, 6);
        good("repeat 3 { try { turn; thick 0; } quarter; }", 3, 13);
        good("try { repeat 3 { turn; thick 0; } turn; } quarter;", 1, 5);
        good("try { punch 0 0 0; thick 0; } punch 0 0 0;", 1, 4);
        good("try { try { thick 0; } thick 0; turn; }", 0, 4);
        stop("move a { turn; thick 0; } try { do a; } do a;", 15, 0, 8);
        stop("try { thick 0; } punch 9 9 3;", 17, NONE, 3);
        desk.sheet(2);
        good(desk, "turn; try { cut y 1 low; punch 9 9 0; }", 1, 4);
        Check.due("count(1)", desk.count(1), 16);
        Check.due("count(2)", desk.count(2), 1);
        Check.due("undo()", desk.undo(), 0);
    }

    private static void thick() {
        good("over x 1 high; thick 2;", 1, 2);
        stop("over x 1 high; thick 1;", 15, 0, 2);
        good("over x 1 high; over y 1 high; thick 4;", 2, 3);
        stop("over x 1 high; over y 1 high; thick 3;", 30, 0, 3);
        FoldDesk desk = Check.desk(2);
        for (int f = 0; f < 16; f++) {
            desk.punch(f / 4 % 2, f / 8, f % 4);
        }
        good(desk, "thick 0;", 0, 1);
    }

    private static void stops() {
        FoldDesk desk = Check.desk(2);
        desk.fold(0, 1, true, true);
        stop(desk, "turn; quarter; punch 0 0 0; turn;", 15, NONE, 3);
        Check.layers(desk, 0, 0, 0, 0, 4);
        Check.lies(desk, 4, 0, 0, 0, 0, 1);
        Check.due("count(2)", desk.count(2), 1);
        stop(desk, "repeat 2 { punch 0 0 0; }", 11, NONE, 3);
        Check.due("count(1)", desk.count(1), 16);
        stop(Check.desk(8), "over x 1 high; over x -4 high;", 15, FoldDesk.BEYOND, 2);
        stop("over x 0 high;", 0, FoldDesk.STAYS, 1);
        stop("move a { over x 0 high; } turn; do a;", 9, FoldDesk.STAYS, 4);
        // A diagram without a fault forgets the one of the latest.
        good(desk, "", 0, 0);
    }

    private static void manySteps() {
        stop("repeat 50 { repeat 7 { thick 9; } }", 23, 0, 401);
        String most = "repeat 49 { repeat 7 { thick 9; } } " + Text.times("thick 9;", 7);
        good(most, 0, 400);
        stop(most + "turn;", most.length(), 0, 401);
        good(most.substring(0, most.length() - 8) + "turn;", 1, 400);
        String inTry = "turn; try { quarter; repeat 50 { repeat 9 { thick 9; } } }";
        FoldDesk desk = Check.desk(2);
        good(desk, inTry, 1, 401);
        Check.due("log(0, 0)", desk.log(0, 0), 5);
        Check.due("log(1, 0)", desk.log(1, 0), NONE);
        stop(inTry + "turn;", inTry.length(), 0, 402);
        good("try { " + inTry + " try { turn; } }", 0, 402);
    }

    private static void fullLog() {
        FoldDesk desk = Check.desk(2);
        good(desk, "repeat 50 { repeat 6 { turn; } }", 300, 351);
        stop(desk, "turn;", 0, FoldDesk.FULL, 1);
        stop(desk, "over x 0 high;", 0, FoldDesk.STAYS, 1);
        good(desk, "try { turn; } thick 1;", 0, 3);
        desk.undo();
        stop(desk, "turn; quarter;", 6, FoldDesk.FULL, 2);
        Check.due("count(2)", desk.count(2), 299);
        good(desk, "try { turn; quarter; } quarter;", 1, 4);
        Check.due("log(299, 0)", desk.log(299, 0), 6);
    }

    private static void wrongWhat() {
        FoldDesk desk = Check.desk(2);
        int[] wrong = {-1, 4, Integer.MIN_VALUE, Integer.MAX_VALUE};
        for (int what : wrong) {
            Check.due("fault(" + what + ")", desk.fault(what), NONE);
        }
        Text.run(desk, "punch 9 9 9;");
        Check.faults(desk, "punch 9 9 9;", STOPPED, 0, FoldDesk.RANGE, 1);
        Check.due("fault(4)", desk.fault(4), NONE);
        desk.diagram();
        Check.faults(desk, "", 0, NONE, 0, 0);
    }

    /** Twenty moves, each of which does the one ahead of it within seven more blocks. */
    private static void deepCalls() {
        StringBuilder text = new StringBuilder("move aa{turn;}");
        for (char name = 'b'; name < 'a' + 20; name++) {
            text.append("move a").append(name).append('{').append(Text.times("try{", 7));
            text.append("do a").append((char) (name - 1)).append(';').append(Text.times("}", 8));
        }
        good(text + "do at;", 1, 20 + 1 + 19 * 8 + 1);
    }
}
