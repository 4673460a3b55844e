/** Promises 8 to 11: feed, statute, fault, law. */
public final class StatuteTest {
    private static final int BLANKS = 0x20202020;

    private StatuteTest() {
    }

    public static void main(String[] args) {
        Checks c = new Checks();
        feed(c);
        highestByteFirst(c);
        numbersAndTape(c);
        tenStatutes(c);
        goodTexts(c);
        faults(c);
        faultsOfBytes(c);
        faultsOfACutText(c);
        sixteenStatements(c);
        faultOfTheLatest(c);
        lawWithoutAny(c);
        lawOfDays(c);
        lawOfOne(c);
        c.end();
    }

    private static int feedBlanks(TributeFleet x) {
        return x.feed(BLANKS, BLANKS, BLANKS, BLANKS, BLANKS);
    }

    private static void feed(Checks c) {
        TributeFleet x = new TributeFleet(3);
        for (int i = 1; i <= 20; i++) {
            c.due("8: feed " + i, feedBlanks(x), 20 * i);
        }
        c.due("8: no room", feedBlanks(x), -1);
        c.due("8: 400 stay", x.count(4), 400);
        c.due("8: all of them are a text", x.statute(400), 0);
        c.due("8: empty then", x.count(4), 0);
        c.due("8: room again", feedBlanks(x), 20);
    }

    private static void highestByteFirst(Checks c) {
        TributeFleet x = new TributeFleet(3);
        // "loss 123", "; fine 4", "56 ;"
        x.feed(0x6c6f7373, 0x20313233, 0x3b206669, 0x6e652034, 0x3536203b);
        c.due("8: statute(20)", x.statute(20), 0);
        c.due("8: loss", x.law(0, 1), 123);
        c.due("8: fine", x.law(0, 3), 456);
        // a byte of 128 on at the end of the second number
        x.feed(BLANKS, 0x202020f3, BLANKS, BLANKS, BLANKS);
        c.due("8: a high byte", x.statute(20), -1);
        c.due("8: its place", x.fault(), 7);
        Texts.feed(x, "private 1;          ");
        Texts.feed(x, "private 5;          ");
        c.due("8: bytes come behind", x.count(4), 40);
        c.due("8: both are read", x.statute(40), 1);
        c.due("8: the later holds", x.law(0, 2), 5);
    }

    private static void numbersAndTape(Checks c) {
        TributeFleet x = new TributeFleet(3);
        c.due("9: statute(1) of none", x.statute(1), -2);
        c.due("9: statute(-1)", x.statute(-1), -2);
        c.due("9: statute(0) of none", x.statute(0), 0);
        Texts.feed(x, "loss 1; loss 2; los");
        c.due("9: statute(21)", x.statute(21), -2);
        c.due("9: statute(-1) again", x.statute(-1), -2);
        c.due("9: nothing done", x.count(4), 20);
        c.due("9: the first 7 bytes", x.statute(7), 1);
        c.due("9: of them", x.law(0, 1), 1);
        c.due("9: the tape is empty", x.count(4), 0);
        Texts.feed(x, "loss 1; loss 2; los");
        c.due("9: a fault", x.statute(19), -1);
        c.due("9: it empties too", x.count(4), 0);
        c.due("9: two are there", x.count(3), 2);
        c.due("9: the first bytes alone", Texts.statute(x, "fine 7;"), 2);
        c.due("9: no byte of a full tape", zeroOf(x, "what?"), 3);
        c.due("9: then it tells nothing", x.law(0, 3), 1);
        c.due("9: and empties", x.count(4), 0);
    }

    private static int zeroOf(TributeFleet x, String text) {
        Texts.feed(x, text);
        return x.statute(0);
    }

    private static void tenStatutes(Checks c) {
        TributeFleet x = new TributeFleet(3);
        for (int i = 0; i < 10; i++) {
            c.due("9: statute " + i, Texts.statute(x, "fine 5;"), i);
        }
        c.due("9: ten", x.count(3), 10);
        c.due("9: an eleventh", Texts.statute(x, "fine 6;"), -3);
        c.due("9: nothing done", x.count(4), 20);
        c.due("9: still ten", x.count(3), 10);
        c.due("9: -2 at ten", x.statute(21), -2);
        c.due("9: law of the tenth", x.law(0, 3), 5);
        c.due("9: its number", x.law(0, 4), 9);
    }

    private static void goodTexts(Checks c) {
        String[] texts = {"", " ", "\n \n", "order told;", "order\ncounty ;", "days0is1;",
            " loss 0 ; ", "fine 999;fine 000;", "private\n\n1;\n", "days 999 is 999;", "loss 007;"};
        TributeFleet x = new TributeFleet(3);
        for (int i = 0; i < 10; i++) {
            c.due("9: \"" + texts[i] + "\"", Texts.statute(x, texts[i]), i);
            c.due("10: no fault in \"" + texts[i] + "\"", x.fault(), -1);
        }
        TributeFleet other = new TributeFleet(3);
        c.due("9: zeros ahead", Texts.statute(other, texts[10]), 0);
        c.due("9: their number", other.law(0, 1), 7);
    }

    private static void faults(Checks c) {
        due(c, "loss", 4);
        due(c, "loss 5", 6);
        due(c, "loss 5  \n", 9);
        due(c, "los", 0);
        due(c, "losss 5;", 0);
        due(c, "lossz 5;", 0);
        due(c, "lossa 5;", 0);
        due(c, "moss 5;", 0);
        due(c, "lobs 5;", 0);
        due(c, "lost 5;", 0);
        due(c, "line 5;", 0);
        due(c, "  lossx 5;", 2);
        due(c, "loss5x;", 5);
        due(c, "loss 1234;", 5);
        due(c, "loss 12 34;", 8);
        due(c, "loss ;", 5);
        due(c, "loss loss 5;", 5);
        due(c, "loss -5;", 5);
        due(c, "loss 5;;", 7);
        due(c, "loss 5 fine 5;", 7);
        due(c, "fine", 4);
        due(c, "fine 1000;", 5);
        due(c, "fine x;", 5);
        due(c, "fine 3", 6);
        due(c, "private boats;", 8);
        due(c, "private 5 5;", 10);
        due(c, "private ", 8);
        due(c, "order", 5);
        due(c, "order bags;", 6);
        due(c, "order 5;", 6);
        due(c, "order ;", 6);
        due(c, "order countyboats;", 6);
        due(c, "order boats told;", 12);
        due(c, "order told", 10);
        due(c, "ordertold;", 0);
        due(c, "county;", 0);
        due(c, "days is 3;", 5);
        due(c, "days 1000 is 3;", 5);
        due(c, "days 0 in 3;", 7);
        due(c, "days 0 3;", 7);
        due(c, "days 0 as 3;", 7);
        due(c, "days 0 is;", 9);
        due(c, "days 0 is fine;", 10);
        due(c, "days 0 is 3 3;", 12);
        due(c, "days", 4);
        due(c, "days 0", 6);
        due(c, "days 0 is", 9);
        due(c, "days 0 is 3", 11);
        due(c, ";", 0);
        due(c, "5;", 0);
        due(c, "is;", 0);
        due(c, "order told;\norder boat;", 18);
    }

    private static void faultsOfBytes(Checks c) {
        due(c, "Loss 5;", 0);
        due(c, "lOss 5;", 0);
        due(c, "loss\t5;", 4);
        due(c, "loss\r5;", 4);
        due(c, "loss 5:", 6);
        due(c, "loss 5;\u0000", 7);
        due(c, "loss `5;", 5);
        due(c, "loss {5;", 5);
        due(c, "loss /5;", 5);
        due(c, "loss 5;\u00ff", 7);
        due(c, "\u00e1", 0);
        due(c, "order told\u00a0;", 10);
    }

    /** Bytes behind the first n are no part of the text. */
    private static void faultsOfACutText(Checks c) {
        String text = "loss 55; fine 6;";
        int[] places = {-1, 0, 0, 0, 4, 5, 6, 7, -1, -1, 9, 9, 9, 13, 14, 15, -1};
        for (int n = 0; n < places.length; n++) {
            TributeFleet x = new TributeFleet(3);
            Texts.feed(x, text);
            c.due("9: the first " + n, x.statute(n), places[n] == -1 ? 0 : -1);
            c.due("10: fault of the first " + n, x.fault(), places[n]);
        }
    }

    private static void due(Checks c, String text, int place) {
        TributeFleet x = new TributeFleet(3);
        c.due("9: \"" + text + "\"", Texts.statute(x, text), -1);
        c.due("10: fault of \"" + text + "\"", x.fault(), place);
        c.due("9: none taken of \"" + text + "\"", x.count(3), 0);
        c.due("9: nothing told by \"" + text + "\"", x.law(0, 4), -1);
    }

    private static void sixteenStatements(Checks c) {
        StringBuilder text = new StringBuilder();
        for (int i = 0; i < 16; i++) {
            text.append("fine ").append(i).append(";\n");
        }
        int length = text.length();
        TributeFleet x = new TributeFleet(3);
        c.due("9: sixteen", Texts.statute(x, text.toString()), 0);
        c.due("9: the last holds", x.law(0, 3), 15);
        c.due("9: seventeen", Texts.statute(x, text + " loss 1;"), -1);
        c.due("10: where the 17th begins", x.fault(), length + 1);
        c.due("9: a part of a 17th", Texts.statute(x, text + "order"), -1);
        c.due("10: where that begins", x.fault(), length);
        String cut = text.substring(0, length - 2);
        c.due("9: the 16th not ended", Texts.statute(x, cut), -1);
        c.due("10: more must come", x.fault(), length - 2);
    }

    private static void faultOfTheLatest(Checks c) {
        TributeFleet x = new TributeFleet(3);
        c.due("10: at first", x.fault(), -1);
        x.statute(1);
        c.due("10: after a -2", x.fault(), -1);
        Texts.statute(x, "fine;");
        c.due("10: after a fault", x.fault(), 4);
        x.statute(1);
        c.due("10: a -2 leaves it", x.fault(), 4);
        Texts.statute(x, "fine 1;");
        c.due("10: after a good one", x.fault(), -1);
        for (int i = 1; i < 10; i++) {
            x.statute(0);
        }
        Texts.statute(x, "fine");
        c.due("10: a -3 leaves it", x.fault(), -1);
    }

    private static void lawWithoutAny(Checks c) {
        TributeFleet x = new TributeFleet(4);
        int[] want = {2, 20, 2, 1, -1, -1, -1, -1, -1, -1, 3, 3, 3, 3, -1};
        for (int what = 0; what < want.length; what++) {
            c.due("11: law(0, " + what + ")", x.law(0, what), want[what]);
            c.due("11: law(400, " + what + ")", x.law(400, what), want[what]);
        }
        c.due("11: law(0, -1)", x.law(0, -1), -1);
        c.due("11: law(401, 0)", x.law(401, 0), -1);
        c.due("11: law(-1, 0)", x.law(-1, 0), -1);
        TributeFleet longest = new TributeFleet(12);
        c.due("11: law(0, 21) of twelve reaches", longest.law(0, 21), 3);
        c.due("11: law(0, 22) of twelve reaches", longest.law(0, 22), -1);
    }

    private static void lawOfDays(Checks c) {
        TributeFleet x = new TributeFleet(3);
        x.day();
        x.day();
        Texts.statute(x, "fine 5; order county;");
        x.day();
        Texts.statute(x, "fine 6; loss 9;");
        Texts.statute(x, "fine 7;");
        int[] fine = {1, 1, 5, 7, 7};
        int[] number = {-1, -1, 0, 2, 2};
        int[] order = {2, 2, 0, 2, 2};
        for (int day = 0; day < 5; day++) {
            c.due("11: fine on " + day, x.law(day, 3), fine[day]);
            c.due("11: number on " + day, x.law(day, 4), number[day]);
            c.due("11: order on " + day, x.law(day, 0), order[day]);
        }
        c.due("11: one statute takes nothing from another", x.law(3, 1), 20);
        c.due("11: on the last day", x.law(400, 3), 7);
    }

    private static void lawOfOne(Checks c) {
        TributeFleet x = new TributeFleet(5);
        Texts.statute(x, "order boats; days 1 is 0; days 4 is 400; days 5 is 9; loss 1; "
                + "order county; days 1 is 7; loss 30; private 999; private 0; fine 12;");
        int[] want = {0, 30, 0, 12, 0, -1, -1, -1, -1, -1, 3, 7, 3, 3, 400, -1};
        for (int what = 0; what < want.length; what++) {
            c.due("11: of one, law(0, " + what + ")", x.law(0, what), want[what]);
        }
        Texts.statute(x, "order boats;");
        c.due("11: boats", x.law(0, 0), 1);
        Texts.statute(x, "order boats; order told;");
        c.due("11: told", x.law(0, 0), 2);
    }
}
