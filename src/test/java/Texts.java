/** Puts texts on a fleet's tape, twenty bytes a call, filled up with blanks. */
final class Texts {
    private static final int BYTES_A_FEED = 20;

    private Texts() {
    }

    static void feed(TributeFleet x, String text) {
        for (int at = 0; at < text.length(); at += BYTES_A_FEED) {
            x.feed(number(text, at), number(text, at + 4), number(text, at + 8),
                    number(text, at + 12), number(text, at + 16));
        }
    }

    /** Feeds the text and answers statute() of it, without the blanks that fill it up. */
    static int statute(TributeFleet x, String text) {
        feed(x, text);
        return x.statute(text.length());
    }

    private static int number(String text, int at) {
        int number = 0;
        for (int i = at; i < at + 4; i++) {
            number = number << 8 | (i < text.length() ? text.charAt(i) : ' ');
        }
        return number;
    }
}
