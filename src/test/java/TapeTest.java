/** Promises 23 and 24: the tape. */
public final class TapeTest {
    private static final int NONE = FoldDesk.NONE;
    private static final int FULL = FoldDesk.FULL;

    public static void main(String[] args) {
        bytesInOrder();
        room();
        ends();
        Check.end();
    }

    private static void bytesInOrder() {
        FoldDesk desk = Check.desk(2);
        // "over x 1 high; turn;"
        Check.due("feed", desk.feed(0x6f766572, 0x20782031, 0x20686967, 0x683b2074, 0x75726e3b), 20);
        Check.due("count(4)", desk.count(4), 20);
        Check.due("diagram()", desk.diagram(), 2);
        Check.entry(desk, 0, 1, 0, 1, 1, 1, 0, 0, 0, 8);
        Check.entry(desk, 1, 5, 0, 0, 0, 0, 0, 0, 0, 16);
        Check.due("count(4)", desk.count(4), 0);
        Check.due("feed", desk.feed(-1, 0x80808080, Integer.MIN_VALUE, 0, 0x20202020), 20);
        Check.due("feed", desk.feed(0x20202020, 0x20202020, 0x20202020, 0x20202020, 0x20202020), 40);
        Check.due("diagram()", desk.diagram(), NONE);
        Check.faults(desk, "bytes that are none", 1, 0, 0, 0);
        Check.due("count(4)", desk.count(4), 0);
    }

    private static void room() {
        FoldDesk desk = new FoldDesk();
        for (int i = 1; i <= 100; i++) {
            Check.due("feed", desk.feed(0x20202020, 0x20202020, 0x0a0a0a0a, 0x20202020, 0x20202020), 20 * i);
        }
        Check.due("feed", desk.feed(0x20202020, 0x20202020, 0x20202020, 0x20202020, 0x20202020), FULL);
        Check.due("count(4)", desk.count(4), 2000);
        Check.due("end(1981)", desk.end(1981), 1981);
        Check.due("feed", desk.feed(0, 0, 0, 0, 0), FULL);
        Check.due("count(4)", desk.count(4), 1981);
        Check.due("end(1980)", desk.end(1980), 1980);
        Check.due("feed", desk.feed(0x20202020, 0x20202020, 0x20202020, 0x20202020, 0x20202021), 2000);
        Check.due("diagram()", desk.diagram(), NONE);
        Check.faults(desk, "! at the very end", 1, 1999, 0, 0);
        Check.due("feed", desk.feed(0, 0, 0, 0, 0), 20);
    }

    private static void ends() {
        FoldDesk desk = new FoldDesk();
        Check.due("end(0)", desk.end(0), 0);
        Check.due("end(1)", desk.end(1), NONE);
        Check.due("end(-1)", desk.end(-1), NONE);
        // "turn;turn;turn;turn;"
        Check.due("feed", desk.feed(0x7475726e, 0x3b747572, 0x6e3b7475, 0x726e3b74, 0x75726e3b), 20);
        Check.due("end(21)", desk.end(21), NONE);
        Check.due("end(max)", desk.end(Integer.MAX_VALUE), NONE);
        Check.due("end(min)", desk.end(Integer.MIN_VALUE), NONE);
        Check.due("end(20)", desk.end(20), 20);
        Check.due("end(10)", desk.end(10), 10);
        Check.due("count(4)", desk.count(4), 10);
        Check.due("end(11)", desk.end(11), NONE);
        Check.due("feed", desk.feed(0x7475726e, 0x3b202020, 0x20202020, 0x20202020, 0x20202020), 30);
        Check.due("diagram()", desk.diagram(), 3);
        Check.due("end(1)", desk.end(1), NONE);
        Check.due("diagram()", desk.diagram(), 0);
    }
}
