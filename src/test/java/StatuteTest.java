/** Promises 8 to 11: feed, statute, fault, law; and the statutes' text of Terms 1. */
public final class StatuteTest {
    private static final int BLANKS = 0x20202020;

    private StatuteTest() {
    }

    public static void main(String[] args) {
        Checks c = new Checks();
        tapeAndTaking(c);
        texts(c);
        law(c);
        c.end();
    }

    private static void tapeAndTaking(Checks c) {
        c.sentence("8: Twenty bytes come behind those on the tape: how many there are.", StatuteTest::feed);
        c.sentence("8: of each number the highest first.", StatuteTest::highestByteFirst);
        c.sentence("8: NONE, doing nothing: there would be more than 400.", StatuteTest::fullTape);
        c.sentence("9: The first n bytes of the tape are a STATUTE.", StatuteTest::firstBytes);
        c.sentence("9: the tape (which is empty then).", StatuteTest::emptyTapeThen);
        c.sentence("9: a STATUTE from TODAY on: its number.", StatuteTest::numbers);
        c.sentence("9: NONE: a FAULT.", StatuteTest::noneOfAFault);
        c.sentence("9: -2, doing nothing: n is below 0 or more than there are.", StatuteTest::notSoManyBytes);
        c.sentence("9: -3, doing nothing: there are 10.", StatuteTest::tenStatutes);
        c.sentence("Terms 1: Taken (up to 10).", StatuteTest::tenStatutes);
        c.sentence("10: The FAULT's place of the latest statute().", StatuteTest::faultOfTheLatest);
        c.sentence("10: of the latest statute() that was a number or NONE.", StatuteTest::faultAfterRefusals);
        c.sentence("10: NONE: it had none.", StatuteTest::noFault);
    }

    private static void texts(Checks c) {
        c.sentence("Terms 1: A STATUTE is a text: {..} (none at all).", StatuteTest::emptyText);
        c.sentence("Terms 1: \"order\" (\"county\" | \"boats\" | \"told\") \";\".", StatuteTest::orderStatement);
        c.sentence("Terms 1: \"days\" NUMBER \"is\" NUMBER \";\".", StatuteTest::daysStatement);
        c.sentence("Terms 1: \"loss\" NUMBER \";\".", StatuteTest::lossStatement);
        c.sentence("Terms 1: \"private\" NUMBER \";\".", StatuteTest::privateStatement);
        c.sentence("Terms 1: \"fine\" NUMBER \";\".", StatuteTest::fineStatement);
        c.sentence("Terms 1: NUMBER: one to three digits.", StatuteTest::oneToThreeDigits);
        c.sentence("Terms 1: Tokens as long as they go.", StatuteTest::tokensAsLongAsTheyGo);
        c.sentence("Terms 1: words of letters a to z, digits, \";\".", StatuteTest::bytesOfTokens);
        c.sentence("Terms 1: between them blanks (bytes 32 and 10).", StatuteTest::blanks);
        c.sentence("Terms 1: At most 16 statements.", StatuteTest::sixteenStatements);
        c.sentence("Terms 1: FAULT: the first byte of the first token that doesn't go on.", StatuteTest::faultOfAToken);
        c.sentence("Terms 1: FAULT: (or byte that begins none).", StatuteTest::faultOfAByte);
        c.sentence("Terms 1: FAULT: the text's length, if more must come.", StatuteTest::faultOfAnEnd);
        c.sentence("Terms 1: FAULT: the 17th statement: where it begins.", StatuteTest::faultOfASeventeenth);
    }

    private static void law(Checks c) {
        c.sentence("Terms 1: it's in force from TODAY on.", StatuteTest::fromTodayOn);
        c.sentence("Terms 1: ORDER (the last; told).", StatuteTest::lastOrder);
        c.sentence("Terms 1: ALLOWED DAYS of a REACH (the last \"days\" of it; 3).", StatuteTest::lastDays);
        c.sentence("Terms 1: LOSS (thousandths; 20).", StatuteTest::lastLoss);
        c.sentence("Terms 1: PRIVATE (BAGS a BOAT; 2).", StatuteTest::lastPrivate);
        c.sentence("Terms 1: FINE (1).", StatuteTest::lastFine);
        c.sentence("11: Of the STATUTE in force on a DAY (0 to 400).", StatuteTest::firstAndLastDayOfLaw);
        c.sentence("11: (0: 0 county, 1 boats, 2 told), LOSS (1), PRIVATE (2), FINE (3).", StatuteTest::lawOfOne);
        c.sentence("11: its number (4; NONE).", StatuteTest::numberInForce);
        c.sentence("11: 10 + r ALLOWED DAYS of REACH r.", StatuteTest::allowedDays);
        c.sentence("11: NONE for others.", StatuteTest::noSuchLaw);
    }

    private static int feedBlanks(TributeFleet x) {
        return x.feed(BLANKS, BLANKS, BLANKS, BLANKS, BLANKS);
    }

    private static void feed(Checks c) {
        TributeFleet x = new TributeFleet(3);
        c.due("at first", x.count(4), 0);
        Texts.feed(x, "private 1;          ");
        c.due("twenty", x.count(4), 20);
        c.due("twenty more", x.feed(0x70726976, 0x61746520, 0x353b2020, BLANKS, BLANKS), 40);
        c.due("forty", x.count(4), 40);
        c.due("both are read", x.statute(40), 0);
        c.due("the later is behind the earlier", x.law(0, 2), 5);
    }

    private static void highestByteFirst(Checks c) {
        TributeFleet x = new TributeFleet(3);
        // "loss 123", "; fine 4", "56 ;"
        x.feed(0x6c6f7373, 0x20313233, 0x3b206669, 0x6e652034, 0x3536203b);
        c.due("statute(20)", x.statute(20), 0);
        c.due("loss", x.law(0, 1), 123);
        c.due("fine", x.law(0, 3), 456);
        for (int place = 0; place < 20; place++) {
            int[] numbers = {BLANKS, BLANKS, BLANKS, BLANKS, BLANKS};
            // A byte of 128 on: at the highest place it makes the number one below 0.
            numbers[place / 4] ^= 0xa0 << 24 - place % 4 * 8;
            x.feed(numbers[0], numbers[1], numbers[2], numbers[3], numbers[4]);
            c.due("a stray byte at " + place, x.statute(20), -1);
            c.due("its place " + place, x.fault(), place);
        }
        x.feed(Integer.MIN_VALUE, -1, Integer.MAX_VALUE, 0, 1);
        c.due("numbers of all kinds", x.statute(20), -1);
        c.due("the first of them", x.fault(), 0);
    }

    private static void fullTape(Checks c) {
        TributeFleet x = new TributeFleet(3);
        for (int i = 1; i <= 20; i++) {
            c.due("feed " + i, feedBlanks(x), 20 * i);
        }
        c.due("no room", x.feed(0, 0, 0, 0, 0), -1);
        c.due("nor then", x.feed(0, 0, 0, 0, 0), -1);
        c.due("400 stay", x.count(4), 400);
        c.due("statute(401)", x.statute(401), -2);
        c.due("all 400 are blanks still", x.statute(400), 0);
        c.due("room again", feedBlanks(x), 20);
    }

    private static void firstBytes(Checks c) {
        String text = "loss 55; fine 6;";
        int[] faults = {-1, 0, 0, 0, 4, 5, 6, 7, -1, -1, 9, 9, 9, 13, 14, 15, -1, -1, -1, -1, -1};
        for (int n = 0; n <= 20; n++) {
            TributeFleet x = new TributeFleet(3);
            Texts.feed(x, text);
            c.due("the first " + n, x.statute(n), faults[n] == -1 ? 0 : -1);
            c.due("fault of the first " + n, x.fault(), faults[n]);
            c.due("loss of the first " + n, x.law(0, 1), n < 8 || faults[n] != -1 ? 20 : 55);
            c.due("fine of the first " + n, x.law(0, 3), n < 16 ? 1 : 6);
        }
        TributeFleet x = new TributeFleet(3);
        Texts.feed(x, "what?");
        c.due("none of them", x.statute(0), 0);
        TributeFleet y = new TributeFleet(3);
        c.due("none of none", y.statute(0), 0);
    }

    private static void emptyTapeThen(Checks c) {
        TributeFleet x = new TributeFleet(3);
        Texts.feed(x, "loss 1; loss 2; loss 3; loss 4;");
        c.due("a part of them", x.statute(7), 0);
        c.due("empty after a part", x.count(4), 0);
        c.due("nothing to read", x.statute(1), -2);
        Texts.feed(x, "loss 1; loss 2; los");
        c.due("a fault", x.statute(19), -1);
        c.due("empty after a fault", x.count(4), 0);
        Texts.feed(x, "what?");
        c.due("no byte", x.statute(0), 1);
        c.due("empty after no byte", x.count(4), 0);
        c.due("the next begins anew", Texts.statute(x, "fine 7;"), 2);
        c.due("as told", x.law(0, 3), 7);
        c.due("empty after all", x.count(4), 0);
    }

    private static void numbers(Checks c) {
        TributeFleet x = new TributeFleet(3);
        for (int i = 0; i < 10; i++) {
            c.due("statute " + i, Texts.statute(x, "loss " + i + ";"), i);
            c.due("statutes", x.count(3), i + 1);
            c.due("a fault between", Texts.statute(x, "loss"), i < 9 ? -1 : -3);
        }
    }

    private static void noneOfAFault(Checks c) {
        TributeFleet x = new TributeFleet(3);
        Texts.statute(x, "fine 5;");
        c.due("a good statement ahead of a fault", Texts.statute(x, "fine 6; order bags;"), -1);
        c.due("statutes", x.count(3), 1);
        c.due("the one ahead holds", x.law(0, 3), 5);
        c.due("its number", x.law(0, 4), 0);
        c.due("its order", x.law(0, 0), 2);
    }

    private static void notSoManyBytes(Checks c) {
        TributeFleet x = new TributeFleet(3);
        c.due("one of none", x.statute(1), -2);
        c.due("the most of none", x.statute(Integer.MAX_VALUE), -2);
        c.due("below 0 of none", x.statute(-1), -2);
        Texts.feed(x, "fine 5;");
        c.due("-1", x.statute(-1), -2);
        c.due("the least", x.statute(Integer.MIN_VALUE), -2);
        c.due("21 of 20", x.statute(21), -2);
        c.due("the most", x.statute(Integer.MAX_VALUE), -2);
        c.due("20 stay", x.count(4), 20);
        c.due("statutes", x.count(3), 0);
        c.due("20 of 20", x.statute(20), 0);
        c.due("as fed", x.law(0, 3), 5);
    }

    private static void tenStatutes(Checks c) {
        TributeFleet x = new TributeFleet(3);
        for (int i = 0; i < 10; i++) {
            c.due("statute " + i, Texts.statute(x, "fine 5;"), i);
        }
        c.due("an eleventh", Texts.statute(x, "fine 6;"), -3);
        c.due("its bytes stay", x.count(4), 20);
        c.due("an eleventh of no bytes", x.statute(0), -3);
        c.due("an eleventh with a fault", x.statute(3), -3);
        c.due("more bytes than there are", x.statute(21), -2);
        c.due("less than none", x.statute(-1), -2);
        c.due("they stay yet", x.count(4), 20);
        c.due("statutes", x.count(3), 10);
        c.due("the tenth holds", x.law(0, 3), 5);
        c.due("its number", x.law(0, 4), 9);
        x.day();
        c.due("on a later day too", x.statute(7), -3);
    }

    private static void faultOfTheLatest(Checks c) {
        TributeFleet x = new TributeFleet(3);
        Texts.statute(x, "fine;");
        c.due("the first", x.fault(), 4);
        c.due("asked again", x.fault(), 4);
        Texts.statute(x, " order 5;");
        c.due("the next", x.fault(), 7);
        x.day();
        c.due("a day later", x.fault(), 7);
        Texts.feed(x, "fine 1;");
        c.due("after a feed", x.fault(), 7);
        x.statute(7);
        c.due("after a number", x.fault(), -1);
    }

    private static void faultAfterRefusals(Checks c) {
        TributeFleet x = new TributeFleet(3);
        x.statute(1);
        c.due("after a -2", x.fault(), -1);
        Texts.statute(x, "fine;");
        x.statute(1);
        c.due("a -2 leaves the place", x.fault(), 4);
        for (int i = 0; i < 10; i++) {
            x.statute(0);
        }
        Texts.statute(x, "fine;");
        c.due("a -3 leaves none", x.fault(), -1);
    }

    private static void noFault(Checks c) {
        TributeFleet x = new TributeFleet(3);
        c.due("at first", x.fault(), -1);
        x.statute(0);
        c.due("of an empty text", x.fault(), -1);
        Texts.statute(x, "fine");
        Texts.statute(x, "fine 1;");
        c.due("of a good one", x.fault(), -1);
    }

    /** The text is a statute, of which law(0, what) is as due. */
    private static void good(Checks c, String text, int what, int want) {
        TributeFleet x = new TributeFleet(3);
        c.due("\"" + text + "\"", Texts.statute(x, text), 0);
        c.due("fault of \"" + text + "\"", x.fault(), -1);
        c.due("law(0, " + what + ") of \"" + text + "\"", x.law(0, what), want);
    }

    /** The text has its fault at that place, and nothing is taken. */
    private static void bad(Checks c, String text, int place) {
        TributeFleet x = new TributeFleet(3);
        c.due("\"" + text + "\"", Texts.statute(x, text), -1);
        c.due("fault of \"" + text + "\"", x.fault(), place);
        c.due("statutes after \"" + text + "\"", x.count(3), 0);
        c.due("law after \"" + text + "\"", x.law(0, 4), -1);
    }

    private static void emptyText(Checks c) {
        good(c, "", 4, 0);
        good(c, " ", 4, 0);
        good(c, "\n", 4, 0);
        good(c, " \n \n ", 4, 0);
        good(c, " ".repeat(400), 4, 0);
    }

    private static void orderStatement(Checks c) {
        good(c, "order county;", 0, 0);
        good(c, "order boats;", 0, 1);
        good(c, "order told;", 0, 2);
        bad(c, "order", 5);
        bad(c, "order ;", 6);
        bad(c, "order 5;", 6);
        bad(c, "order bags;", 6);
        bad(c, "order order;", 6);
        bad(c, "order boats", 11);
        bad(c, "order boats told;", 12);
        bad(c, "county;", 0);
    }

    private static void daysStatement(Checks c) {
        good(c, "days 1 is 7;", 11, 7);
        good(c, "days 1 is 0;", 11, 0);
        good(c, "days 1 is 999;", 11, 999);
        good(c, "days 3 is 7;", 13, -1);
        good(c, "days 999 is 7;", 12, 3);
        bad(c, "days", 4);
        bad(c, "days ;", 5);
        bad(c, "days is 7;", 5);
        bad(c, "days 1", 6);
        bad(c, "days 1 7;", 7);
        bad(c, "days 1 in 7;", 7);
        bad(c, "days 1;", 6);
        bad(c, "days 1 is", 9);
        bad(c, "days 1 is;", 9);
        bad(c, "days 1 is is 7;", 10);
        bad(c, "days 1 is 7", 11);
        bad(c, "days 1 is 7 7;", 12);
        bad(c, "is 7;", 0);
    }

    private static void numberStatement(Checks c, String word, int what) {
        int length = word.length();
        good(c, word + " 7;", what, 7);
        good(c, word + " 0;", what, 0);
        good(c, word + " 999;", what, 999);
        bad(c, word, length);
        bad(c, word + ";", length);
        bad(c, word + " fine;", length + 1);
        bad(c, word + " 7", length + 2);
        bad(c, word + " 7 7;", length + 3);
        bad(c, word + " 7;;", length + 3);
        bad(c, word + " 7 " + word + " 7;", length + 3);
    }

    private static void lossStatement(Checks c) {
        numberStatement(c, "loss", 1);
    }

    private static void privateStatement(Checks c) {
        numberStatement(c, "private", 2);
    }

    private static void fineStatement(Checks c) {
        numberStatement(c, "fine", 3);
    }

    private static void oneToThreeDigits(Checks c) {
        good(c, "loss 1;", 1, 1);
        good(c, "loss 12;", 1, 12);
        good(c, "loss 123;", 1, 123);
        good(c, "loss 007;", 1, 7);
        good(c, "loss 000;", 1, 0);
        bad(c, "loss ;", 5);
        bad(c, "loss 1234;", 5);
        bad(c, "loss 0001;", 5);
        bad(c, "loss 99999999999999999999;", 5);
        bad(c, "days 1234 is 1;", 5);
        bad(c, "days 1 is 1234;", 10);
        bad(c, "private 1234;", 8);
        bad(c, "fine 1234;", 5);
        bad(c, "loss 12 3;", 8);
        bad(c, "loss -1;", 5);
    }

    private static void tokensAsLongAsTheyGo(Checks c) {
        good(c, "loss5;fine6;", 3, 6);
        good(c, "days1is7;", 11, 7);
        bad(c, "losss 5;", 0);
        bad(c, "lossfine 5;", 0);
        bad(c, "los s 5;", 0);
        bad(c, "ordertold;", 0);
        bad(c, "order toldd;", 6);
        bad(c, "order tol;", 6);
        bad(c, "order countyboats;", 6);
        bad(c, "days 1 iss 7;", 7);
        bad(c, "days 1 i s 7;", 7);
        bad(c, "days 1 is7x;", 10);
        bad(c, "loss 5x;", 6);
    }

    private static void bytesOfTokens(Checks c) {
        good(c, "private 0;", 2, 0);
        good(c, "private 9;", 2, 9);
        for (int sign = 0; sign < 256; sign++) {
            boolean isBlank = sign == ' ' || sign == '\n';
            boolean isDigit = sign >= '0' && sign <= '9';
            if (isBlank) {
                good(c, "fine 5" + (char) sign + ";", 3, 5);
            } else if (isDigit) {
                good(c, "fine 5" + (char) sign + ";", 3, 50 + sign - '0');
            } else {
                bad(c, "fine 5" + (char) sign + (sign == ';' ? ";" : ""), sign == ';' ? 7 : 6);
            }
        }
        bad(c, "`", 0);
        bad(c, "{", 0);
        bad(c, "a", 0);
        bad(c, "z", 0);
        bad(c, "losz 5;", 0);
        bad(c, "loSs 5;", 0);
        bad(c, "Loss 5;", 0);
        bad(c, "loss /;", 5);
        bad(c, "loss :;", 5);
    }

    private static void blanks(Checks c) {
        good(c, "\n order \n\n boats \n ; \n", 0, 1);
        good(c, "days\n1\nis\n7\n;\n", 11, 7);
        good(c, "fine" + " ".repeat(380) + "5;", 3, 5);
        for (int sign : new int[] {0, 8, 9, 11, 12, 13, 31, 33, 127, 133, 138, 160, 255}) {
            bad(c, "fine" + (char) sign + "5;", 4);
            bad(c, (char) sign + "fine 5;", 0);
            bad(c, "fine 5;" + (char) sign, 7);
        }
    }

    private static String statements(int many) {
        StringBuilder text = new StringBuilder();
        for (int i = 0; i < many; i++) {
            text.append("fine ").append(i).append(";\n");
        }
        return text.toString();
    }

    private static void sixteenStatements(Checks c) {
        good(c, statements(15), 3, 14);
        good(c, statements(16), 3, 15);
        good(c, statements(16) + " \n ", 3, 15);
        good(c, statements(15) + "order boats;", 0, 1);
        bad(c, statements(17), statements(16).length());
        bad(c, statements(20), statements(16).length());
    }

    private static void faultOfAToken(Checks c) {
        bad(c, "told;", 0);
        bad(c, ";", 0);
        bad(c, "5;", 0);
        bad(c, "  \n told;", 4);
        bad(c, "order told;\norder boat;", 18);
        bad(c, "fine 1; loss two; days", 13);
        bad(c, "fine 1; what 5; loss", 8);
        String last = statements(15) + "loss fine;";
        bad(c, last, last.length() - 5);
    }

    private static void faultOfAByte(Checks c) {
        bad(c, "?", 0);
        bad(c, "  -", 2);
        bad(c, "loss?5;", 4);
        bad(c, "loss ?5;", 5);
        bad(c, "loss 5?;", 6);
        bad(c, "loss 5;\u0000", 7);
        bad(c, "loss 5;\u00ff", 7);
        bad(c, "order \u00e1told;", 6);
        bad(c, "order to\u00e1ld;", 6);
        bad(c, "order told\u00a0;", 10);
        bad(c, "loss 5; fine \u0080;", 13);
    }

    private static void faultOfAnEnd(Checks c) {
        bad(c, "loss", 4);
        bad(c, "loss  \n", 7);
        bad(c, "loss 5", 6);
        bad(c, "loss 5 \n ", 9);
        bad(c, "fine 1; order", 13);
        bad(c, "order county ", 13);
        bad(c, "days 1 is ", 10);
        bad(c, statements(15) + "order told", statements(15).length() + 10);
        bad(c, "loss 5" + " ".repeat(394), 400);
        bad(c, "los", 0);
    }

    private static void faultOfASeventeenth(Checks c) {
        int length = statements(16).length();
        bad(c, statements(16) + "loss 1;", length);
        bad(c, statements(16) + " \n loss 1;", length + 3);
        bad(c, statements(16) + "order", length);
        bad(c, statements(16) + "  what", length + 2);
        bad(c, statements(16) + " ?", length + 1);
        bad(c, statements(16) + ";", length);
    }

    private static void fromTodayOn(Checks c) {
        TributeFleet x = new TributeFleet(3);
        Days.pass(x, 2);
        Texts.statute(x, "fine 5; order county;");
        x.day();
        Texts.statute(x, "fine 6; loss 9;");
        Texts.statute(x, "fine 7;");
        int[] fine = {1, 1, 5, 7, 7};
        int[] order = {2, 2, 0, 2, 2};
        for (int day = 0; day < 5; day++) {
            c.due("fine on " + day, x.law(day, 3), fine[day]);
            c.due("order on " + day, x.law(day, 0), order[day]);
        }
        c.due("none takes from one ahead of it", x.law(3, 1), 20);
        Days.pass(x, 397);
        Texts.statute(x, "fine 8;");
        c.due("the day ahead of the last", x.law(399, 3), 7);
        c.due("on the last", x.law(400, 3), 8);
    }

    private static void lastOrder(Checks c) {
        good(c, "", 0, 2);
        good(c, "fine 5;", 0, 2);
        good(c, "order boats; order county;", 0, 0);
        good(c, "order county; order boats;", 0, 1);
        good(c, "order county; fine 5; order told;", 0, 2);
    }

    private static void lastDays(Checks c) {
        good(c, "", 11, 3);
        good(c, "days 0 is 5; days 2 is 6;", 11, 3);
        good(c, "days 1 is 5; days 2 is 6; days 1 is 7;", 11, 7);
        good(c, "days 1 is 5; days 2 is 6; days 1 is 7;", 12, 6);
        good(c, "days 1 is 5; days 13 is 6;", 11, 5);
    }

    private static void lastLoss(Checks c) {
        good(c, "", 1, 20);
        good(c, "loss 7; loss 5;", 1, 5);
    }

    private static void lastPrivate(Checks c) {
        good(c, "", 2, 2);
        good(c, "private 7; private 0;", 2, 0);
    }

    private static void lastFine(Checks c) {
        good(c, "", 3, 1);
        good(c, "fine 0; fine 8;", 3, 8);
    }

    private static void firstAndLastDayOfLaw(Checks c) {
        TributeFleet x = new TributeFleet(3);
        c.bounds("law(?, 1)", 0, 400, day -> x.law(day, 1) == 20);
        Texts.statute(x, "loss 30;");
        c.bounds("law(?, 1) of one", 0, 400, day -> x.law(day, 1) == 30);
        for (int what : new int[] {0, 1, 2, 3, 4, 10}) {
            c.due("law(401, " + what + ")", x.law(401, what), -1);
            c.due("law(-1, " + what + ")", x.law(-1, what), -1);
        }
    }

    private static void lawOfOne(Checks c) {
        TributeFleet x = new TributeFleet(5);
        Texts.statute(x, "order boats; days 1 is 0; days 4 is 400; days 5 is 9; loss 1; "
                + "order county; days 1 is 7; loss 30; private 999; private 0; fine 12;");
        int[] want = {0, 30, 0, 12, 0};
        for (int what = 0; what < want.length; what++) {
            c.due("law(0, " + what + ")", x.law(0, what), want[what]);
        }
        Texts.statute(x, "order boats;");
        c.due("boats", x.law(0, 0), 1);
        Texts.statute(x, "order told;");
        c.due("told", x.law(0, 0), 2);
    }

    private static void numberInForce(Checks c) {
        TributeFleet x = new TributeFleet(3);
        c.due("none", x.law(0, 4), -1);
        x.day();
        c.due("none on a day ahead", x.law(400, 4), -1);
        x.statute(0);
        c.due("none on the day gone by", x.law(0, 4), -1);
        c.due("the first", x.law(1, 4), 0);
        x.day();
        for (int i = 1; i < 10; i++) {
            x.statute(0);
            c.due("number " + i, x.law(2, 4), i);
        }
        c.due("the first still", x.law(1, 4), 0);
        c.due("the tenth on the last day", x.law(400, 4), 9);
    }

    private static void allowedDays(Checks c) {
        for (int n = 3; n <= 12; n++) {
            TributeFleet x = new TributeFleet(n);
            Texts.statute(x, "days 0 is 1; days " + (n - 1) + " is 9; days " + n + " is 8;");
            for (int r = 0; r < n; r++) {
                int want = r == 0 ? 1 : r == n - 1 ? 9 : 3;
                c.due("law(0, " + (10 + r) + ") of " + n, x.law(0, 10 + r), want);
            }
            c.due("of none below", x.law(0, 9), -1);
            c.due("of none above " + n, x.law(0, 10 + n), -1);
        }
    }

    private static void noSuchLaw(Checks c) {
        TributeFleet x = new TributeFleet(4);
        Texts.statute(x, "loss 5;");
        for (int what = -3; what < 40; what++) {
            boolean isThere = what >= 0 && what <= 4 || what >= 10 && what <= 13;
            c.due("law(0, " + what + ") is there", x.law(0, what) != -1, isThere);
        }
        for (int shift = 6; shift < 32; shift++) {
            c.due("law(0, 1 << " + shift + ")", x.law(0, 1 << shift), -1);
        }
        c.due("wrapped around", x.law(0, Integer.MIN_VALUE + 9), -1);
        c.due("the most", x.law(0, Integer.MAX_VALUE), -1);
        TributeFleet y = new TributeFleet(3);
        c.due("of no statute", y.law(0, 5), -1);
        c.due("of no reach and no statute", y.law(0, 13), -1);
    }
}
