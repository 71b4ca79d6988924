/** How a text comes to the tape. */
final class Text {
    private Text() { }

    /** The five numbers of feed() for twenty bytes of a text from a place on; blanks behind its end. */
    static int[] five(String text, int from) {
        int[] five = new int[5];
        for (int i = 0; i < 20; i++) {
            int b = from + i < text.length() ? text.charAt(from + i) & 255 : ' ';
            five[i / 4] = five[i / 4] << 8 | b;
        }
        return five;
    }

    /** Puts a text on the tape alone, and runs it. */
    static int run(FoldDesk desk, String text) {
        desk.end(0);
        put(desk, text);
        return desk.diagram();
    }

    static void put(FoldDesk desk, String text) {
        int length = desk.count(4);
        for (int i = 0; i < text.length(); i += 20) {
            int[] five = five(text, i);
            desk.feed(five[0], five[1], five[2], five[3], five[4]);
        }
        desk.end(length + text.length());
    }

    static String times(String text, int times) {
        StringBuilder all = new StringBuilder();
        for (int i = 0; i < times; i++) {
            all.append(text);
        }
        return all.toString();
    }
}
