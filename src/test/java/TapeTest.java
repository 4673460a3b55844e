/** Promises 8 to 10: feed, statute, fault. */
public final class TapeTest {
    private static final int BLANKS = 0x20202020;

    private TapeTest() {
    }

    public static void main(String[] args) {
        Checks c = new Checks();
        c.sentence("8: Twenty bytes come behind those on the tape: how many there are.", TapeTest::feed);
        c.sentence("8: of each number the highest first.", TapeTest::highestByteFirst);
        c.sentence("8: NONE, doing nothing: there would be more than 400.", TapeTest::fullTape);
        c.sentence("9: The first n bytes of the tape are a STATUTE.", TapeTest::firstBytes);
        c.sentence("9: the tape (which is empty then).", TapeTest::emptyTapeThen);
        c.sentence("9: a STATUTE from TODAY on: its number.", TapeTest::numbers);
        c.sentence("9: NONE: a FAULT.", TapeTest::noneOfAFault);
        c.sentence("9: -2, doing nothing: n is below 0 or more than there are.", TapeTest::notSoManyBytes);
        c.sentence("9: -3, doing nothing: there are 10.", TapeTest::tenStatutes);
        c.sentence("Terms 1: Taken (up to 10).", TapeTest::tenAreTaken);
        c.sentence("10: The FAULT's place of the latest statute().", TapeTest::faultOfTheLatest);
        c.sentence("10: of the latest statute() that was a number or NONE.", TapeTest::faultAfterRefusals);
        c.sentence("10: NONE: it had none.", TapeTest::noFault);
        c.end();
    }

    private static int feedBlanks(TributeFleet x) {
        return x.feed(BLANKS, BLANKS, BLANKS, BLANKS, BLANKS);
    }

    private static void feed(Checks c) {
        TributeFleet x = new TributeFleet(3);
        c.due("at first", x.count(4), 0);
        Texts.feed(x, "private 1;          ");
        c.due("twenty", x.count(4), 20);
        c.due("twenty more", x.feed(0x70726976, 0x61746520, 0x353b2020, BLANKS, BLANKS), 40);
        c.due("forty", x.count(4), 40);
        c.due("both are read", x.statute(40), 0);
        c.due("the later is behind the earlier", x.law(0, 2), 5);
    }

    private static void highestByteFirst(Checks c) {
        TributeFleet x = new TributeFleet(3);
        // "loss 123", "; fine 4", "56 ;"
        x.feed(0x6c6f7373, 0x20313233, 0x3b206669, 0x6e652034, 0x3536203b);
        c.due("statute(20)", x.statute(20), 0);
        c.due("loss", x.law(0, 1), 123);
        c.due("fine", x.law(0, 3), 456);
        for (int place = 0; place < 20; place++) {
            int[] numbers = {BLANKS, BLANKS, BLANKS, BLANKS, BLANKS};
            // A byte of 128 on: at the highest place it makes the number one below 0.
            numbers[place / 4] ^= 0xa0 << 24 - place % 4 * 8;
            x.feed(numbers[0], numbers[1], numbers[2], numbers[3], numbers[4]);
            c.due("a stray byte at " + place, x.statute(20), -1);
            c.due("its place " + place, x.fault(), place);
        }
        x.feed(Integer.MIN_VALUE, -1, Integer.MAX_VALUE, 0, 1);
        c.due("numbers of all kinds", x.statute(20), -1);
        c.due("the first of them", x.fault(), 0);
    }

    private static void fullTape(Checks c) {
        TributeFleet x = new TributeFleet(3);
        for (int i = 1; i <= 20; i++) {
            c.due("feed " + i, feedBlanks(x), 20 * i);
        }
        c.due("no room", x.feed(0, 0, 0, 0, 0), -1);
        c.due("nor then", x.feed(0, 0, 0, 0, 0), -1);
        c.due("400 stay", x.count(4), 400);
        c.due("statute(401)", x.statute(401), -2);
        c.due("all 400 are blanks still", x.statute(400), 0);
        c.due("room again", feedBlanks(x), 20);
    }

    private static void firstBytes(Checks c) {
        String text = "loss 55; fine 6;";
        int[] faults = {-1, 0, 0, 0, 4, 5, 6, 7, -1, -1, 9, 9, 9, 13, 14, 15, -1, -1, -1, -1, -1};
        for (int n = 0; n <= 20; n++) {
            TributeFleet x = new TributeFleet(3);
            Texts.feed(x, text);
            c.due("the first " + n, x.statute(n), faults[n] == -1 ? 0 : -1);
            c.due("fault of the first " + n, x.fault(), faults[n]);
            c.due("loss of the first " + n, x.law(0, 1), n < 8 || faults[n] != -1 ? 20 : 55);
            c.due("fine of the first " + n, x.law(0, 3), n < 16 ? 1 : 6);
        }
        TributeFleet x = new TributeFleet(3);
        Texts.feed(x, "what?");
        c.due("none of them", x.statute(0), 0);
        TributeFleet y = new TributeFleet(3);
        c.due("none of none", y.statute(0), 0);
    }

    private static void emptyTapeThen(Checks c) {
        TributeFleet x = new TributeFleet(3);
        Texts.feed(x, "loss 1; loss 2; loss 3; loss 4;");
        c.due("a part of them", x.statute(7), 0);
        c.due("empty after a part", x.count(4), 0);
        c.due("nothing to read", x.statute(1), -2);
        Texts.feed(x, "loss 1; loss 2; los");
        c.due("a fault", x.statute(19), -1);
        c.due("empty after a fault", x.count(4), 0);
        Texts.feed(x, "what?");
        c.due("no byte", x.statute(0), 1);
        c.due("empty after no byte", x.count(4), 0);
        c.due("the next begins anew", Texts.statute(x, "fine 7;"), 2);
        c.due("as told", x.law(0, 3), 7);
        c.due("empty after all", x.count(4), 0);
    }

    private static void numbers(Checks c) {
        TributeFleet x = new TributeFleet(3);
        for (int i = 0; i < 10; i++) {
            c.due("statute " + i, Texts.statute(x, "loss " + i + ";"), i);
            c.due("statutes", x.count(3), i + 1);
            c.due("a fault between", Texts.statute(x, "loss"), i < 9 ? -1 : -3);
        }
    }

    private static void noneOfAFault(Checks c) {
        TributeFleet x = new TributeFleet(3);
        Texts.statute(x, "fine 5;");
        c.due("a good statement ahead of a fault", Texts.statute(x, "fine 6; order bags;"), -1);
        c.due("statutes", x.count(3), 1);
        c.due("the one ahead holds", x.law(0, 3), 5);
        c.due("its number", x.law(0, 4), 0);
        c.due("its order", x.law(0, 0), 2);
    }

    private static void notSoManyBytes(Checks c) {
        TributeFleet x = new TributeFleet(3);
        c.due("one of none", x.statute(1), -2);
        c.due("the most of none", x.statute(Integer.MAX_VALUE), -2);
        c.due("below 0 of none", x.statute(-1), -2);
        Texts.feed(x, "fine 5;");
        c.due("-1", x.statute(-1), -2);
        c.due("the least", x.statute(Integer.MIN_VALUE), -2);
        c.due("21 of 20", x.statute(21), -2);
        c.due("the most", x.statute(Integer.MAX_VALUE), -2);
        c.due("20 stay", x.count(4), 20);
        c.due("statutes", x.count(3), 0);
        c.due("20 of 20", x.statute(20), 0);
        c.due("as fed", x.law(0, 3), 5);
    }

    private static void tenStatutes(Checks c) {
        TributeFleet x = new TributeFleet(3);
        for (int i = 0; i < 10; i++) {
            c.due("statute " + i, Texts.statute(x, "fine 5;"), i);
        }
        c.due("an eleventh", Texts.statute(x, "fine 6;"), -3);
        c.due("its bytes stay", x.count(4), 20);
        c.due("an eleventh of no bytes", x.statute(0), -3);
        c.due("an eleventh with a fault", x.statute(3), -3);
        c.due("more bytes than there are", x.statute(21), -2);
        c.due("less than none", x.statute(-1), -2);
        c.due("they stay yet", x.count(4), 20);
        c.due("statutes", x.count(3), 10);
        c.due("the tenth holds", x.law(0, 3), 5);
        c.due("its number", x.law(0, 4), 9);
        x.day();
        c.due("on a later day too", x.statute(7), -3);
    }

    /** Ones with a fault are not taken and don't count. */
    private static void tenAreTaken(Checks c) {
        TributeFleet x = new TributeFleet(3);
        for (int i = 0; i < 10; i++) {
            c.due("one with a fault, ahead of " + i, Texts.statute(x, "fine;"), -1);
            c.due("taken", Texts.statute(x, "fine 5" + i + ";"), i);
            c.due("in force", x.law(x.day() - 1, 3), 50 + i);
        }
        c.due("an eleventh", Texts.statute(x, "fine 60;"), -3);
        for (int i = 0; i < 10; i++) {
            c.due("that of day " + i, x.law(i, 4), i);
        }
        c.due("today", x.law(10, 3), 59);
    }

    private static void faultOfTheLatest(Checks c) {
        TributeFleet x = new TributeFleet(3);
        Texts.statute(x, "fine;");
        c.due("the first", x.fault(), 4);
        c.due("asked again", x.fault(), 4);
        Texts.statute(x, " order 5;");
        c.due("the next", x.fault(), 7);
        x.day();
        c.due("a day later", x.fault(), 7);
        Texts.feed(x, "fine 1;");
        c.due("after a feed", x.fault(), 7);
        x.statute(7);
        c.due("after a number", x.fault(), -1);
    }

    private static void faultAfterRefusals(Checks c) {
        TributeFleet x = new TributeFleet(3);
        x.statute(1);
        c.due("after a -2", x.fault(), -1);
        Texts.statute(x, "fine;");
        x.statute(1);
        c.due("a -2 leaves the place", x.fault(), 4);
        for (int i = 0; i < 10; i++) {
            x.statute(0);
        }
        Texts.statute(x, "fine;");
        c.due("a -3 leaves none", x.fault(), -1);
    }

    private static void noFault(Checks c) {
        TributeFleet x = new TributeFleet(3);
        c.due("at first", x.fault(), -1);
        x.statute(0);
        c.due("of an empty text", x.fault(), -1);
        Texts.statute(x, "fine");
        Texts.statute(x, "fine 1;");
        c.due("of a good one", x.fault(), -1);
    }
}
