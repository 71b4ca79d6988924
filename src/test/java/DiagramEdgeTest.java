/**
 * The boundary cases of promises 23 to 26 and of Terms III, a test for each sentence that names one: the last value
 * that is still taken, the first one that is not, and what is told behind a text that has a fault or stops.
 */
public final class DiagramEdgeTest {
    private static final int NONE = FoldDesk.NONE;
    private static final int FULL = FoldDesk.FULL;
    private static final int LEAST = Integer.MIN_VALUE;
    private static final int GREATEST = Integer.MAX_VALUE;
    private static final int SYNTAX = 1;
    private static final int NAME = 2;
    private static final int OUT_OF_RANGE = 3;
    private static final int ROOM = 4;
    private static final int STOPPED = 5;
    private static final String[] WORDS = {"over", "under", "flap", "cut", "punch", "turn", "quarter", "open", "repeat",
        "move", "do", "try", "thick", "x", "y", "sum", "diff", "low", "high"};

    public static void main(String[] args) {
        tapeHasRoomForTwoThousand();
        feedThatIsTooMuch();
        feedTakesTheHighestByteFirst();
        feedComesBehindTheTape();
        endFromNoughtToAll();
        endThatIsRefused();
        endLeavesTheFirstBytesAlone();

        emptyTapeIsADiagram();
        tapeIsEmptyBehindIt();
        textOfTwoThousandBytes();
        blanksAreTwoBytes();
        highBytesAreNoTokens();
        wordsHaveTenLetters();
        wordsHaveSmallLetters();
        numbersHaveThreeDigits();
        minusStandsAheadAtOnce();
        placeOfTheEnd();
        syntaxOfEachStep();

        leastOfOneToken();
        firstThatIsComeTo();
        quotedWordsAreNoNames();
        moveThatIsThereAlready();
        doOfOneThatIsNotThere();
        repeatOneToFifty();
        numbersAsFarAsThirtyTwo();
        thickFromNoughtTo256();
        twentyMoves();
        movesAreCountedInAllBlocks();
        eightBlocksInOneAnother();
        threeHundredSteps();

        actsAsTold();
        repeatSoManyTimes();
        moveDoesNothing();
        thickStopsAboveItsNumber();
        actThatIsRefused();
        fourHundredSteps();
        stepFourHundredAndOneInATry();
        tryTakesBackAllOfIt();
        tryWithinTry();
        tryAndTheLogsRoom();
        stopTakesBackAll();
        actsThatWereTakenBackAside();

        faultAheadOfAny();
        faultWhatIsFromNoughtToThree();
        faultOfTheLatest();
        placeOfAStop();
        stepsThatWereBegun();
        Check.end();
    }

    // ---- helpers

    /** A desk with layers, a hole, a shape and a way that was found; its tape is empty, and it tells no fault. */
    private static void ready(FoldDesk desk) {
        Check.used(desk);
        desk.end(0);
        desk.diagram();
    }

    /** A text without a fault that does not stop: so many acts, so many steps. */
    private static void good(String text, int acts, int steps) {
        FoldDesk desk = Check.desk(2);
        Check.due("diagram of '" + text + "'", Text.run(desk, text), acts);
        Check.faults(desk, text, 0, NONE, 0, steps);
        Check.due("count(2)", desk.count(2), acts);
        Check.due("count(4)", desk.count(4), 0);
    }

    /** A text with a fault: nothing is done by it. The place is where the bar stands, or the end without one. */
    private static void fault(String told, int why) {
        int bar = told.indexOf('|');
        String text = bar < 0 ? told : told.substring(0, bar) + told.substring(bar + 1);
        spoilt("'" + told + "'", DiagramEdgeTest::ready, text, why, bar < 0 ? text.length() : bar, 0, 0);
    }

    /** A text that stops: nothing is left of what it did. */
    private static void stop(Told.Calls ahead, String told, int answer, int steps) {
        int bar = told.indexOf('|');
        String text = told.substring(0, bar) + told.substring(bar + 1);
        spoilt("'" + told + "'", ahead, text, STOPPED, bar, answer, steps);
    }

    private static void stop(String told, int answer, int steps) {
        stop(d -> d.sheet(2), told, answer, steps);
    }

    private static void spoilt(String name, Told.Calls ahead, String text, int... faults) {
        FoldDesk desk = new FoldDesk();
        ahead.on(desk);
        Check.due("diagram of " + name, Text.run(desk, text), NONE);
        Check.faults(desk, name, faults);
        Check.due("count(4)", desk.count(4), 0);
        // The fault itself is forgotten with the next text, an empty one.
        Check.unchanged("diagram of " + name, d -> {
            ahead.on(d);
            d.end(0);
            d.diagram();
        }, d -> {
            Text.run(d, text);
            return d.diagram();
        });
    }

    private static int feedBlanks(FoldDesk desk) {
        return desk.feed(0x20202020, 0x20202020, 0x20202020, 0x20202020, 0x20202020);
    }

    /** So many bytes on the tape, the last of which are a step. */
    private static void tapeOf(FoldDesk desk, int length) {
        desk.sheet(2);
        Text.put(desk, Text.times(" ", length - 5) + "turn;");
        Check.due("count(4)", desk.count(4), length);
    }

    // ---- Promise 23: "how many it has; FULL, and none come, when there would be more than 2000"

    private static void tapeHasRoomForTwoThousand() {
        FoldDesk desk = new FoldDesk();
        for (int i = 1; i <= 100; i++) {
            Check.due("feed", feedBlanks(desk), 20 * i);
        }
        Check.due("feed", feedBlanks(desk), FULL);
        Check.due("count(4)", desk.count(4), 2000);
        desk.end(1980);
        Check.due("feed behind 1980", feedBlanks(desk), 2000);
        desk.end(1979);
        Check.due("feed behind 1979", feedBlanks(desk), 1999);
        Check.due("feed behind 1999", feedBlanks(desk), FULL);
        desk.diagram();
        Check.due("feed behind diagram()", feedBlanks(desk), 20);
    }

    private static void feedThatIsTooMuch() {
        int[] lengths = {1981, 1999, 2000};
        for (int length : lengths) {
            Check.refused("feed behind " + length, d -> tapeOf(d, length), d -> d.feed(0x7475726e, 0x3b747572, 0x6e3b7475,
                    0x726e3b74, 0x75726e3b), FULL);
        }
    }

    private static void feedTakesTheHighestByteFirst() {
        FoldDesk desk = Check.desk(2);
        // "cut y1high;turn;open"
        Check.due("feed", desk.feed(0x63757420, 0x79316869, 0x67683b74, 0x75726e3b, 0x6f70656e), 20);
        Check.due("feed", desk.feed(0x3b202020, 0x20202020, 0x20202020, 0x20202020, 0x20202020), 40);
        Check.due("diagram()", desk.diagram(), 3);
        Check.entry(desk, 0, 3, 1, 1, 1, 0, 0, 0, 0, 8);
        Check.entry(desk, 1, 5, 0, 0, 0, 0, 0, 0, 0, 8);
        Check.entry(desk, 2, 7, 0, 0, 0, 0, 0, 0, 0, 8);
    }

    private static void feedComesBehindTheTape() {
        FoldDesk desk = Check.desk(2);
        Text.put(desk, "tu");
        Text.put(desk, "rn; quart");
        Text.put(desk, "er;");
        Check.due("count(4)", desk.count(4), 14);
        Check.due("diagram()", desk.diagram(), 2);
    }

    // ---- Promise 24: "THE TAPE has its first n bytes alone: n; NONE when it has not so many, or n is below 0."

    private static void endFromNoughtToAll() {
        int[] ends = {0, 1, 1999, 2000};
        for (int n : ends) {
            FoldDesk desk = new FoldDesk();
            tapeOf(desk, 2000);
            Check.due("end(" + n + ")", desk.end(n), n);
            Check.due("count(4)", desk.count(4), n);
        }
        FoldDesk desk = new FoldDesk();
        Check.due("end(0) of an empty tape", desk.end(0), 0);
    }

    private static void endThatIsRefused() {
        int[] wrong = {-1, 15, 2000, LEAST, GREATEST};
        for (int n : wrong) {
            Check.refused("end(" + n + ")", Check::used, d -> d.end(n), NONE);
        }
        Check.refused("end(1) of an empty tape", d -> { }, d -> d.end(1), NONE);
        Check.refused("end(-1) of an empty tape", d -> { }, d -> d.end(-1), NONE);
        Check.refused("end(2001)", d -> tapeOf(d, 2000), d -> d.end(2001), NONE);
        FoldDesk desk = new FoldDesk();
        Check.used(desk);
        Check.due("end(14)", desk.end(14), 14);
        Check.due("end(13)", desk.end(13), 13);
        Check.due("end(14)", desk.end(14), NONE);
    }

    private static void endLeavesTheFirstBytesAlone() {
        FoldDesk desk = Check.desk(2);
        Text.put(desk, "turn;quarter;open;");
        Check.due("end(13)", desk.end(13), 13);
        Check.due("diagram()", desk.diagram(), 2);
        Text.put(desk, "turn;quarter;open;");
        Check.due("end(5)", desk.end(5), 5);
        Check.due("feed", feedBlanks(desk), 25);
        Check.due("diagram()", desk.diagram(), 1);
        Text.put(desk, "turn;quarter;open;");
        Check.due("end(4)", desk.end(4), 4);
        Check.due("diagram()", desk.diagram(), NONE);
        Check.faults(desk, "turn", SYNTAX, 4, 0, 0);
    }

    // ---- Promise 25 and THE TAPE "(at most 2000 bytes; each call that reads it empties it)"

    private static void emptyTapeIsADiagram() {
        good("", 0, 0);
        good(" ", 0, 0);
        good("\n", 0, 0);
        Check.unchanged("diagram() of an empty tape", d -> d.fold(0, 1, true, true), FoldDesk::diagram);
    }

    private static void tapeIsEmptyBehindIt() {
        String[] texts = {"turn;", "turn", "over x 9 high;", "try{over x 9 high;}"};
        int[] answers = {1, NONE, NONE, 0};
        for (int i = 0; i < texts.length; i++) {
            FoldDesk desk = Check.desk(2);
            Check.due("diagram of '" + texts[i] + "'", Text.run(desk, texts[i]), answers[i]);
            Check.due("count(4)", desk.count(4), 0);
            Check.due("end(1)", desk.end(1), NONE);
            Check.due("diagram()", desk.diagram(), 0);
            Check.faults(desk, "nothing", 0, NONE, 0, 0);
        }
    }

    private static void textOfTwoThousandBytes() {
        FoldDesk desk = new FoldDesk();
        tapeOf(desk, 2000);
        Check.due("diagram()", desk.diagram(), 1);
        tapeOf(desk, 2000);
        desk.end(1999);
        Check.due("diagram()", desk.diagram(), NONE);
        Check.faults(desk, "turn at the end", SYNTAX, 1999, 0, 0);
    }

    /** "Blanks (32, 10) between TOKENS" */
    private static void blanksAreTwoBytes() {
        for (int b = 0; b < 256; b++) {
            String text = "turn" + (char) b + ";";
            if (b == 32 || b == 10) {
                good(text, 1, 1);
                continue;
            }
            FoldDesk desk = Check.desk(2);
            int place = b == ';' ? 5 : b >= 'a' && b <= 'z' ? 0 : 4;
            Check.due("diagram with byte " + b, Text.run(desk, text), NONE);
            Check.faults(desk, "byte " + b, SYNTAX, place, 0, 0);
        }
        good("\n turn\n ;  \n", 1, 1);
        good("over x1high;", 1, 1);
        fault("|tu rn;", SYNTAX);
    }

    /** A byte above 127 is not the one that it would be without its highest bit. */
    private static void highBytesAreNoTokens() {
        fault("|\u00f4urn;", SYNTAX);
        fault("|tur\u00ee;", SYNTAX);
        fault("turn|\u00bb", SYNTAX);
        fault("turn|\u00a0;", SYNTAX);
        fault("turn|\u008a;", SYNTAX);
        fault("thick |\u00b1;", SYNTAX);
        fault("over diff |\u00ad1 low;", SYNTAX);
        fault("try|\u00fb}", SYNTAX);
        fault("|\u0080", SYNTAX);
        fault("|\u00ff", SYNTAX);
    }

    /** "WORDS (small letters, at most 10)"; "a run of letters .. that is too long" */
    private static void wordsHaveTenLetters() {
        good("move a{}do a;", 0, 2);
        good("move abcdefghij{turn;}do abcdefghij;", 1, 3);
        fault("move |abcdefghijk{}", SYNTAX);
        fault("do |abcdefghijk;", SYNTAX);
        fault("move abcdefghij{}do |abcdefghijj;", SYNTAX);
        fault("|turnturntur;", SYNTAX);
        fault("|" + Text.times("a", 13) + "turn;", SYNTAX);
        fault("turn;|" + Text.times("quarter", 10) + ";", SYNTAX);
        // Ten letters that differ in the first or the last one alone are two names.
        fault("move abcdefghij{}do |bbcdefghij;", NAME);
        fault("move abcdefghij{}do |abcdefghii;", NAME);
        fault("move abcdefghij{}do |abcdefghi;", NAME);
        fault("move abcdefghij{}do |bcdefghij;", NAME);
        fault("move ab{}do |r;", NAME);
        fault("turn;turn |abcdefghijk", SYNTAX);
        fault("thick 9;thick |abcdefghijk", SYNTAX);
    }

    private static void wordsHaveSmallLetters() {
        good("move az{turn;}do az;", 1, 3);
        good("move zz{}move aa{turn;}do aa;", 1, 4);
        fault("move |A{}", SYNTAX);
        fault("move |Z{}", SYNTAX);
        fault("move |`{}", SYNTAX);
        fault("move |_{}", SYNTAX);
        fault("|Turn;", SYNTAX);
        fault("|tURN;", SYNTAX);
        fault("|turN;", SYNTAX);
        fault("turn|~;", SYNTAX);
        fault("turn|\u007f;", SYNTAX);
    }

    /** "NUMBERS (1 to 3 digits ..)"; "a run of .. digits that is too long" */
    private static void numbersHaveThreeDigits() {
        good("thick 1;", 0, 1);
        good("thick 01;", 0, 1);
        good("thick 001;", 0, 1);
        fault("thick |0001;", SYNTAX);
        fault("thick |1000;", SYNTAX);
        fault("thick |00000000000000000000001;", SYNTAX);
        fault("thick |4294967297;", SYNTAX);
        good("over x 001 high;", 1, 1);
        fault("over x |0001 high;", SYNTAX);
        good("repeat 009{turn;}", 9, 10);
        fault("repeat |0009{}", SYNTAX);
        good("punch 000 000 003;", 1, 1);
        fault("punch 0 0 |0003;", SYNTAX);
        fault("thick |/;", SYNTAX);
        fault("thick |:;", SYNTAX);
        fault("thick 1|:;", SYNTAX);
    }

    /** "perhaps with - ahead at once" */
    private static void minusStandsAheadAtOnce() {
        good("over diff -1 low;", 1, 1);
        good("over diff -01 low;", 1, 1);
        good("over diff -001 low;", 1, 1);
        good("punch -0 -00 -000;", 1, 1);
        fault("over diff |- 1 low;", SYNTAX);
        fault("over diff |-\n1 low;", SYNTAX);
        fault("over diff |--1 low;", SYNTAX);
        fault("over diff |-low;", SYNTAX);
        fault("over diff |-", SYNTAX);
        fault("over diff |+1 low;", SYNTAX);
        fault("over diff 1|- low;", SYNTAX);
        stop("|over diff -1 low flap-1-1-0;", NONE, 1);
    }

    /** "the end has the text's length" */
    private static void placeOfTheEnd() {
        String[] texts = {"turn", "turn ", "turn\n\n", "over", "over x", "over x 1", "over x 1 high", "over x 1 high flap",
            "over x 1 high flap 0", "over x 1 high flap 0 0", "over x 1 high flap 0 0 0", "under", "cut", "cut y", "cut y 1",
            "cut y 1 low", "punch", "punch 0", "punch 0 0", "punch 0 0 0", "quarter", "open", "repeat", "repeat 1",
            "repeat 1{", "repeat 1{turn;", "move", "move a", "move a{", "move a{}do", "move a{}do a", "try", "try{",
            "try{try{}", "try{try{} ", "thick", "thick 9", "turn;turn"};
        for (String text : texts) {
            fault(text, SYNTAX);
        }
    }

    /** "a TOKEN .. with which no diagram goes on": behind each token of each step. */
    private static void syntaxOfEachStep() {
        String[] texts = {"|high", "|x", "|flap", "|fold;", "|a", "|1", "|-1", "|{", "|}", "|;", "turn;|;", "turn;|}", "turn|}",
            "turn |1;", "turn|{", "turn |turn;", "over |1", "over |low", "over |a", "over|;", "over|{", "over x |x", "over x |low",
            "over x|;", "over x 1 |1", "over x 1|;", "over x 1 |flap", "over x 1 |a", "over x 1 high |high",
            "over x 1 high |1", "over x 1 high|{", "over x 1 high|}", "over x 1 high flap|;", "over x 1 high flap |a",
            "over x 1 high flap 0|;", "over x 1 high flap 0 0|;", "over x 1 high flap 0 0 |x", "over x 1 high flap 0 0 0 |0",
            "over x 1 high flap 0 0 0 |flap", "under |under", "cut |high", "cut y 1|;", "cut y 1 low |flap 0 0 0;", "cut y 1 low|{",
            "punch|;", "punch |x", "punch 0|;", "punch 0 0|;", "punch 0 0 0 |0", "quarter|}", "open |open", "repeat|;",
            "repeat|{", "repeat |a{", "repeat 2|;", "repeat 2 |2", "repeat 2 |turn;", "repeat 2{|;", "repeat 2{turn|}",
            "repeat 2{}|;", "repeat 2{}|}", "move|{", "move|;", "move |1{}", "move a|;", "move a |a", "move a{}|;", "move a{}|}",
            "do|;", "do |1;", "do|{", "move a{}do a|}", "move a{}do a |a", "try|;", "try |1{}", "try |turn;", "try{}|;", "try{}|}",
            "thick|;", "thick |a;", "thick |x", "thick 1 |1", "thick 1|}"};
        for (String text : texts) {
            fault(text, SYNTAX);
        }
    }

    // ---- FAULTS: "the first that is come to as TOKENS are read one by one, of one TOKEN the least"

    private static String moves(int number) {
        StringBuilder text = new StringBuilder();
        for (int i = 0; i < number; i++) {
            text.append("move ").append((char) ('a' + i)).append("a{}");
        }
        return text.toString();
    }

    private static void leastOfOneToken() {
        // SYNTAX and NAME.
        fault("do |over;", SYNTAX);
        fault("do |abcdefghijk;", SYNTAX);
        // SYNTAX and RANGE.
        fault("thick |9999;", SYNTAX);
        fault("repeat |0000{}", SYNTAX);
        fault("turn |999;", SYNTAX);
        fault("repeat 2 |99{}", SYNTAX);
        // SYNTAX and ROOM.
        fault(Text.times("turn;", 300) + "|low;", SYNTAX);
        fault(Text.times("turn;", 300) + "|}", SYNTAX);
        fault(Text.times("turn;", 299) + "turn |turn;", SYNTAX);
        fault(Text.times("try{", 8) + "|{", SYNTAX);
        fault(Text.times("try{", 8) + "turn|{", SYNTAX);
        fault(moves(20) + "turn |move", SYNTAX);
        fault(moves(20) + "do |move;", SYNTAX);
    }

    private static void firstThatIsComeTo() {
        fault("repeat |0{do a;#", OUT_OF_RANGE);
        fault("do |a;repeat 0{}#", NAME);
        fault("turn|#do a;repeat 0{}", SYNTAX);
        fault(moves(20) + "|move aa{}thick 999;", ROOM);
        fault(moves(20) + "thick |999;move za{}", OUT_OF_RANGE);
        fault(moves(19) + "move |aa{}move za{}", NAME);
        fault("move a{do |a;}#", NAME);
        fault("over x |33 1;", OUT_OF_RANGE);
        fault("over x 32 |1;", SYNTAX);
    }

    /** "the words quoted here are no names of moves" */
    private static void quotedWordsAreNoNames() {
        for (String word : WORDS) {
            fault("move |" + word + "{}", SYNTAX);
            fault("do |" + word + ";", SYNTAX);
            good("move " + word + "s{turn;}do " + word + "s;", 1, 3);
            good("move z" + word + "{turn;}do z" + word + ";", 1, 3);
        }
    }

    /** "behind move one that is there already"; "(a move is there as its block has ended ..)" */
    private static void moveThatIsThereAlready() {
        fault("move a{}move |a{}", NAME);
        fault("move a{}move b{}move |a{}", NAME);
        fault("move a{}move b{}try{move |b{}}", NAME);
        fault("try{move a{}}move |a{}", NAME);
        fault("move b{move a{}}move |a{}", NAME);
        fault("move a{move b{}move |b{}}", NAME);
        good("move a{}move b{}", 0, 2);
        good("move a{move a{}}", 0, 1);
    }

    /** "behind do one that isn't there ahead of this place" */
    private static void doOfOneThatIsNotThere() {
        fault("do |a;", NAME);
        fault("do |a;move a{}", NAME);
        fault("move a{do |a;}", NAME);
        fault("move a{try{do |a;}}", NAME);
        fault("move a{}do |b;", NAME);
        good("move a{turn;}do a;", 1, 3);
        good("try{move a{turn;}do a;}do a;", 2, 6);
        good("move b{move a{turn;}do a;}do a;do b;", 2, 7);
        // What an earlier text told is there no more.
        FoldDesk desk = Check.desk(2);
        Check.due("diagram()", Text.run(desk, "move a{turn;}do a;"), 1);
        Check.due("diagram()", Text.run(desk, "do a;"), NONE);
        Check.faults(desk, "do a;", NAME, 3, 0, 0);
        Check.due("diagram()", Text.run(desk, "move a{do a;}"), NONE);
        Check.faults(desk, "move a{do a;}", NAME, 10, 0, 0);
        Check.due("diagram()", Text.run(desk, "move a{quarter;}do a;"), 1);
        Check.due("log(1, 0)", desk.log(1, 0), 6);
    }

    /** "repeat 0 or above 50" */
    private static void repeatOneToFifty() {
        good("repeat 1{turn;}", 1, 2);
        good("repeat 50{turn;}", 50, 51);
        fault("repeat |0{}", OUT_OF_RANGE);
        fault("repeat |51{}", OUT_OF_RANGE);
        fault("repeat |000{}", OUT_OF_RANGE);
        fault("repeat |-0{}", OUT_OF_RANGE);
        fault("repeat |999{}", OUT_OF_RANGE);
        fault("repeat |-33{}", OUT_OF_RANGE);
        good("repeat 33{}repeat 49{}", 0, 2);
    }

    /** "else a NUMBER out of -32 .. 32": in each place that a number has. */
    private static void numbersAsFarAsThirtyTwo() {
        String[] places = {"over x # high;", "over y # low;", "under sum # high;", "under diff # low;", "cut x # high;",
            "cut diff # low;", "punch # 0 0;", "punch 0 # 0;", "punch 0 0 #;", "over x 1 low flap # 0 0;",
            "over x 1 low flap 0 # 0;", "under x 1 low flap 0 0 #;"};
        String[] last = {"32", "-32", "032", "-032"};
        String[] first = {"33", "-33", "033", "999", "-999"};
        for (String place : places) {
            int at = place.indexOf('#');
            for (String number : last) {
                FoldDesk desk = Check.desk(2);
                Check.due("diagram of '" + place.replace("#", number) + "'", Text.run(desk, place.replace("#", number)), NONE);
                Check.due("it has no fault, but stops", desk.fault(0), STOPPED);
                Check.due("by what the act answers", desk.fault(2) < 0 ? 1 : 0, 1);
            }
            for (String number : first) {
                fault(place.substring(0, at) + "|" + place.substring(at).replace("#", number), OUT_OF_RANGE);
            }
        }
    }

    /** "(thick 0 .. 256)" */
    private static void thickFromNoughtTo256() {
        good("thick 256;", 0, 1);
        good("thick 33;", 0, 1);
        stop("|thick 0;", 0, 1);
        stop("|thick -0;", 0, 1);
        fault("thick |257;", OUT_OF_RANGE);
        fault("thick |999;", OUT_OF_RANGE);
        fault("thick |-1;", OUT_OF_RANGE);
        fault("thick |-32;", OUT_OF_RANGE);
    }

    /** "the 21st move (at that word)" */
    private static void twentyMoves() {
        good(moves(20), 0, 20);
        good(moves(20) + "do ta;do aa;turn;", 1, 23);
        fault(moves(20) + "|move ua{}", ROOM);
        fault(moves(20) + "|move aa{}", ROOM);
        fault(moves(20) + "|move", ROOM);
        fault(moves(20) + "turn;\n|move 1", ROOM);
        // Each text has room for twenty of its own.
        FoldDesk desk = Check.desk(2);
        Check.due("diagram()", Text.run(desk, moves(20)), 0);
        Check.due("diagram()", Text.run(desk, moves(20)), 0);
    }

    /** "(Moves may be told within any blocks.)" */
    private static void movesAreCountedInAllBlocks() {
        good("repeat 2{move a{turn;}}do a;", 1, 5);
        good("try{move a{turn;}}do a;", 1, 4);
        good("move b{move a{turn;}}do a;", 1, 3);
        String nested = "move ya{move yb{move yc{move yd{move ye{move yf{move yg{move yh{}}}}}}}}";
        good(moves(12) + nested, 0, 13);
        fault(moves(13) + nested.replace("move yh", "|move yh"), ROOM);
        fault(moves(12) + nested + "|move z{}", ROOM);
        fault(moves(20) + "try{repeat 2{|move z{}}}", ROOM);
    }

    /** "a { within 8 others" */
    private static void eightBlocksInOneAnother() {
        String[] opens = {"try{", "repeat 1{"};
        for (String open : opens) {
            good(Text.times(open, 8) + "turn;" + Text.times("}", 8), 1, 9);
            good(Text.times(open, 8) + Text.times("}", 8) + Text.times(open, 8) + Text.times("}", 8), 0, 16);
            good(Text.times(open, 7) + open + "}" + open + "}" + Text.times("}", 7), 0, 9);
            String nine = Text.times(open, 9);
            fault(nine.substring(0, nine.length() - 1) + "|{" + Text.times("}", 9), ROOM);
            fault(Text.times(open, 8) + "}" + open + open.substring(0, open.length() - 1) + "|{", ROOM);
        }
        fault("move a{move b{move c{move d{move e{move f{move g{move h{move i|{", ROOM);
        fault(Text.times("try{", 8) + "move i|{", ROOM);
        fault(Text.times("try{", 8) + "repeat 2|{", ROOM);
        // A do within eight blocks goes into one more.
        good("move a{turn;}" + Text.times("try{", 8) + "do a;" + Text.times("}", 8), 1, 11);
    }

    /** "the 301st step (at its first TOKEN)" */
    private static void threeHundredSteps() {
        good(Text.times("turn;", 300), 300, 300);
        fault(Text.times("turn;", 300) + "|turn;", ROOM);
        fault(Text.times("turn;", 300) + "|over", ROOM);
        fault(Text.times("turn;", 300) + "|try{}", ROOM);
        fault(Text.times("turn;", 300) + " \n|thick 1;", ROOM);
        good("try{" + Text.times("turn;", 299) + "}", 299, 300);
        fault("try{" + Text.times("turn;", 299) + "|turn;}", ROOM);
        good("move a{" + Text.times("turn;", 298) + "}do a;", 298, 300);
        fault("move a{" + Text.times("turn;", 299) + "}|do a;", ROOM);
        good("repeat 1{" + Text.times("try{}", 299) + "}", 0, 300);
        fault("repeat 1{" + Text.times("try{}", 299) + "|try{}}", ROOM);
    }

    // ---- "It is run step by step"

    /** "repeat: its block so many times" */
    private static void repeatSoManyTimes() {
        good("repeat 1{}", 0, 1);
        good("repeat 50{}turn;", 1, 2);
        good("repeat 2{turn;quarter;}", 4, 5);
        good("repeat 3{repeat 2{turn;}}", 6, 10);
        good("repeat 50{repeat 6{turn;}}", 300, 351);
        FoldDesk desk = Check.desk(2);
        Check.due("diagram()", Text.run(desk, "repeat 2{turn;quarter;}open;"), 5);
        int[] acts = {5, 6, 5, 6, 7, NONE};
        for (int i = 0; i < acts.length; i++) {
            Check.due("log(" + i + ", 0)", desk.log(i, 0), acts[i]);
        }
    }

    /** "move: nothing; do: that block" */
    private static void moveDoesNothing() {
        good("move a{turn;over x 9 high;}", 0, 1);
        good("move a{turn;}do a;do a;", 2, 5);
        good("move a{}do a;turn;", 1, 3);
        good("move a{turn;}move b{do a;do a;}do b;quarter;", 3, 8);
    }

    /** "STOPS when some CELL has more LAYERS than that" */
    private static void thickStopsAboveItsNumber() {
        good("thick 1;", 0, 1);
        stop("|thick 0;", 0, 1);
        good("over x 1 high;thick 2;", 1, 2);
        stop("over x 1 high;|thick 1;", 0, 2);
        good("over x 1 high;over y 1 low;thick 4;", 2, 3);
        stop("over x 1 high;over y 1 low;|thick 3;", 0, 3);
        // One cell is enough.
        good("over sum 1 low;thick 2;", 1, 2);
        stop("over sum 1 low;|thick 1;", 0, 2);
        FoldDesk desk = new FoldDesk();
        Check.bare(desk);
        Check.due("thick 0 with nothing there", Text.run(desk, "thick 0;"), 0);
        desk.sheet(8);
        String all = "over x 4 high;over x 2 high;over x 1 high;over y 4 high;over y 2 high;over y 1 high;over diff 0 low;"
                + "over sum 1 high;";
        Check.due("thick 256", Text.run(desk, all + "thick 256;"), 8);
        Check.due("thick 255", Text.run(desk, "thick 255;"), NONE);
        Check.faults(desk, "thick 255;", STOPPED, 0, 0, 1);
        Check.due("count(2)", desk.count(2), 8);
    }

    /** "the ACTS as told" */
    private static void actsAsTold() {
        FoldDesk desk = Check.desk(2);
        Check.due("diagram()", Text.run(desk, "over x 1 low;under y 1 high;open;over sum 3 high flap 1 1 2;"
                + "under diff -1 low flap 0 1 3;cut x 1 high;punch 0 0 3;turn;quarter;open;"), 10);
        Check.entry(desk, 0, 1, 0, 1, 0, 1, 0, 0, 0, 8);
        Check.entry(desk, 1, 1, 1, 1, 1, 0, 0, 0, 0, 8);
        Check.entry(desk, 3, 2, 2, 3, 1, 1, 1, 1, 2, 2);
        Check.entry(desk, 4, 2, 3, -1, 0, 0, 0, 1, 3, 2);
        Check.entry(desk, 5, 3, 0, 1, 1, 0, 0, 0, 0, 8);
        Check.entry(desk, 6, 4, 0, 0, 3, 0, 0, 0, 0, 1);
        int[] last = {5, 6, 7};
        for (int i = 0; i < last.length; i++) {
            Check.entry(desk, 7 + i, last[i], 0, 0, 0, 0, 0, 0, 0, 7);
        }
        // Nothing of an earlier text's numbers is left in the steps of the next.
        desk.sheet(2);
        Text.run(desk, "over sum 3 high flap 1 1 2;over sum 3 high flap 1 1 2;");
        Check.due("diagram()", Text.run(desk, "turn;quarter;"), 2);
        Check.entry(desk, 0, 5, 0, 0, 0, 0, 0, 0, 0, 16);
        Check.entry(desk, 1, 6, 0, 0, 0, 0, 0, 0, 0, 16);
    }

    /** "An ACT that is refused STOPS it" */
    private static void actThatIsRefused() {
        stop("turn;|over x 8 high;", NONE, 2);
        stop("turn;|over x 0 high;", FoldDesk.STAYS, 2);
        stop("turn;|over x 9 low flap 7 0 0;", FoldDesk.STAYS, 2);
        stop("turn;|over x 1 low flap 16 0 0;", FoldDesk.RANGE, 2);
        stop("turn;|cut y 2 high;", NONE, 2);
        stop("turn;|cut y 2 low;", FoldDesk.STAYS, 2);
        stop("turn;|punch 0 0 0;", NONE, 2);
        stop("turn;|punch 0 0 4;", FoldDesk.RANGE, 2);
        stop("turn;|punch 16 0 0;", FoldDesk.RANGE, 2);
        stop("turn;|punch -9 0 0;", FoldDesk.RANGE, 2);
        stop(d -> d.sheet(8), "turn;over x 7 low;|over x 12 low;", FoldDesk.BEYOND, 3);
        stop(Check::bare, "|turn;", NONE, 1);
        stop(Check::bare, "|quarter;", NONE, 1);
        stop(Check::bare, "|open;", NONE, 1);
        stop(DiagramEdgeTest::almostFull, "turn;|quarter;", FULL, 2);
        good("punch 1 1 3;", 1, 1);
    }

    private static void almostFull(FoldDesk desk) {
        desk.sheet(2);
        Check.fill(desk, 299);
    }

    /** 351 steps, which do nothing. */
    private static final String MANY = "repeat 50{repeat 6{thick 9;}}";

    /** "so does the 401st step that is begun in all" */
    private static void fourHundredSteps() {
        String most = MANY + Text.times("thick 9;", 48);
        good(most + "turn;", 1, 400);
        stop(most + "turn;|turn;", 0, 401);
        stop(most + "turn;|thick 9;", 0, 401);
        stop(most + "turn;|over x 9 high;", 0, 401);
        stop(most + "turn;|try{}", 0, 401);
        stop(most + "turn;|repeat 1{}", 0, 401);
        stop(most + "turn;|move a{}", 0, 401);
        stop("move a{}" + MANY + Text.times("thick 9;", 47) + "turn;|do a;", 0, 401);
        stop("turn;repeat 50{repeat 50{|thick 9;}}", 0, 401);
        // The 301st turn comes first: the last one of the 43rd inner repeat.
        stop("repeat 50{repeat 7{|turn;}}", FULL, 1 + 43 + 301);
        // The next text begins anew.
        FoldDesk desk = Check.desk(2);
        Check.due("diagram()", Text.run(desk, most + "turn;"), 1);
        Check.due("diagram()", Text.run(desk, most + "turn;"), 1);
        Check.due("fault(3)", desk.fault(3), 400);
    }

    private static void stepFourHundredAndOneInATry() {
        FoldDesk desk = Check.desk(2);
        Check.due("diagram()", Text.run(desk, "turn;try{quarter;repeat 50{repeat 9{thick 9;}}}"), 1);
        Check.faults(desk, "a try with 401 steps", 0, NONE, 0, 401);
        Check.due("count(2)", desk.count(2), 1);
        Check.due("log(0, 0)", desk.log(0, 0), 5);
        Check.lies(desk, 0, 7, 0, 0, 0, 0);
    }

    /** "try: its block; if something in it stops, all that it did is taken back and it goes on behind it" */
    private static void tryTakesBackAllOfIt() {
        good("try{}", 0, 1);
        good("try{turn;}", 1, 2);
        good("try{turn;thick 0;}", 0, 3);
        good("try{thick 0;turn;}quarter;", 1, 3);
        good("turn;try{quarter;open;punch 9 9 0;quarter;}quarter;", 2, 6);
        good("try{repeat 3{turn;thick 0;}turn;}quarter;", 1, 5);
        good("move a{turn;thick 0;turn;}try{quarter;do a;quarter;}open;", 1, 7);
        good("repeat 3{try{turn;thick 0;}quarter;}", 3, 13);
        Check.unchanged("a try that stops", DiagramEdgeTest::ready, d -> {
            int answer = Text.run(d, "try{punch 0 0 0;cut y 1 high;over sum 1 low;turn;quarter;open;punch 9 9 9;}");
            Check.due("diagram()", answer, 0);
            Check.due("fault(0)", d.fault(0), 0);
            return d.diagram();
        });
    }

    private static void tryWithinTry() {
        good("try{turn;try{quarter;thick 0;}turn;}", 2, 6);
        good("try{turn;try{quarter;thick 0;}turn;thick 0;}", 0, 7);
        good("try{try{thick 0;}thick 0;turn;}", 0, 4);
        good("try{try{turn;}thick 0;}quarter;", 1, 5);
        good("try{turn;}try{thick 0;}try{turn;}", 2, 6);
        good(Text.times("try{turn;", 8) + "thick 0;" + Text.times("}", 8), 7, 17);
    }

    /** Each act asks for room in the log, also one that is taken back later. */
    private static void tryAndTheLogsRoom() {
        FoldDesk desk = new FoldDesk();
        almostFull(desk);
        Check.due("diagram()", Text.run(desk, "try{turn;quarter;}quarter;"), 1);
        Check.faults(desk, "a full log", 0, NONE, 0, 4);
        Check.due("count(2)", desk.count(2), 300);
        Check.due("log(299, 0)", desk.log(299, 0), 6);
        Check.due("diagram()", Text.run(desk, "try{turn;}thick 1;"), 0);
        Check.due("count(2)", desk.count(2), 300);
        desk.undo();
        Check.due("diagram()", Text.run(desk, "repeat 9{try{turn;thick 0;}}open;"), 1);
        Check.due("count(2)", desk.count(2), 300);
    }

    /** "When it STOPS outside of every try, all that it did is taken back: NONE." */
    private static void stopTakesBackAll() {
        stop(DiagramEdgeTest::ready, "punch 0 0 0;cut sum 1 low;over y 1 low;turn;quarter;open;|punch 9 9 0;", NONE, 7);
        stop(DiagramEdgeTest::ready, "punch 0 0 0;turn;|thick 0;", 0, 3);
        stop("try{turn;}quarter;|thick 0;", 0, 4);
        stop("try{thick 0;}turn;|thick 0;", 0, 4);
        stop("try{turn;punch 9 9 9;}|thick 0;", 0, 4);
        stop("turn;repeat 3{quarter;repeat 2{open;|punch 9 9 0;}}", NONE, 6);
        stop("move a{turn;|thick 0;}turn;do a;", 0, 5);
        stop("move a{turn;|thick 0;}try{do a;}do a;", 0, 8);
    }

    /** "how many ACTS it did (those that were taken back by try aside)" */
    private static void actsThatWereTakenBackAside() {
        good("turn;try{turn;turn;}turn;", 4, 5);
        good("turn;try{turn;turn;thick 0;}turn;", 2, 6);
        FoldDesk desk = new FoldDesk();
        ready(desk);
        Check.due("diagram()", Text.run(desk, "turn;quarter;"), 2);
        Check.due("count(2)", desk.count(2), 4);
        Check.due("undo()", desk.undo(), 3);
    }

    // ---- Promise 26: "its FAULT, 5 when it STOPPED, else 0 (also ahead of any) .. NONE for another what."

    private static void faultAheadOfAny() {
        FoldDesk desk = new FoldDesk();
        Check.faults(desk, "nothing yet", 0, NONE, 0, 0);
        desk.fold(9, 9, true, true);
        Text.put(desk, "turn");
        Check.faults(desk, "nothing yet", 0, NONE, 0, 0);
    }

    private static void faultWhatIsFromNoughtToThree() {
        FoldDesk desk = Check.desk(2);
        int[] wrong = {-1, 4, LEAST, GREATEST};
        Text.run(desk, "turn;punch 9 9 9;");
        Check.faults(desk, "turn;punch 9 9 9;", STOPPED, 5, FoldDesk.RANGE, 2);
        for (int what : wrong) {
            Check.due("fault(" + what + ")", desk.fault(what), NONE);
        }
    }

    private static void faultOfTheLatest() {
        FoldDesk desk = Check.desk(2);
        String[] texts = {"turn", "turn;", "do a;", "punch 9 9 9;", "", "thick 0;", "repeat 51{}", "try{punch 9 9 9;}", "#"};
        int[][] want = {{SYNTAX, 4, 0, 0}, {0, NONE, 0, 1}, {NAME, 3, 0, 0}, {STOPPED, 0, FoldDesk.RANGE, 1}, {0, NONE, 0, 0},
            {STOPPED, 0, 0, 1}, {OUT_OF_RANGE, 7, 0, 0}, {0, NONE, 0, 2}, {SYNTAX, 0, 0, 0}};
        for (int i = 0; i < texts.length; i++) {
            Text.run(desk, texts[i]);
            Check.faults(desk, texts[i], want[i]);
        }
        // A text that stopped, or had its fault, within blocks leaves nothing of them to the next one.
        String[] within = {"repeat 3{try{}repeat 2{thick 0;}}", "repeat 3{try{move a{turn;", "move a{thick 0;}repeat 9{do a;}"};
        for (String text : within) {
            Check.due("diagram of '" + text + "'", Text.run(desk, text), NONE);
            Check.due("diagram()", Text.run(desk, "try{turn;}repeat 2{turn;}open;"), 4);
            Check.faults(desk, "a text behind another", 0, NONE, 0, 6);
        }
        Text.run(desk, "#");
        // Other calls leave it.
        desk.turn();
        desk.fold(9, 9, true, true);
        desk.undo();
        desk.sheet(3);
        feedBlanks(desk);
        desk.end(0);
        Check.faults(desk, "#", SYNTAX, 0, 0, 0);
    }

    /** "the PLACE, of a STOP that of the step's first TOKEN (NONE without)" */
    private static void placeOfAStop() {
        stop("|over x 9 high;", NONE, 1);
        stop("  \n|over x 9 high flap 9 9 0;", NONE, 1);
        stop("repeat 2{turn; |punch 9 9 0;}", NONE, 3);
        stop("move a{ |punch 9 9 0;}turn;do a;", NONE, 4);
        stop("move a{|punch 9 9 0;}move b{do a;}try{do b;}do b;", NONE, 9);
    }

    /** "steps that were begun" */
    private static void stepsThatWereBegun() {
        good("turn;", 1, 1);
        good("move a{turn;}", 0, 1);
        good("repeat 3{}", 0, 1);
        good("repeat 3{turn;}", 3, 4);
        good("try{thick 0;turn;turn;}", 0, 2);
        stop("|thick 0;turn;turn;", 0, 1);
        stop("turn;|thick 0;turn;", 0, 2);
        fault("turn;turn;|#", SYNTAX);
    }
}
