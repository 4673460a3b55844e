/** Puts texts on a fleet's tape, twenty bytes a call, filled up with blanks. */
final class Texts {
    static final int BYTES_A_FEED = 20;

    private Texts() {
    }

    static void feed(TributeFleet x, String text) {
        for (int at = 0; at < text.length(); at += BYTES_A_FEED) {
            int[] five = numbers(text, at);
            x.feed(five[0], five[1], five[2], five[3], five[4]);
        }
    }

    /** Feeds the text and answers statute() of it, without the blanks that fill it up. */
    static int statute(TributeFleet x, String text) {
        feed(x, text);
        return x.statute(text.length());
    }

    /** The five numbers of the twenty bytes from a place on. */
    static int[] numbers(String text, int at) {
        int[] five = new int[5];
        for (int i = 0; i < BYTES_A_FEED; i++) {
            int sign = at + i < text.length() ? text.charAt(at + i) : ' ';
            five[i / 4] = five[i / 4] << 8 | sign;
        }
        return five;
    }
}
