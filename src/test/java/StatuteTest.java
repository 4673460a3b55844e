/** Terms 1: the statutes' text. */
public final class StatuteTest {
    private StatuteTest() {
    }

    public static void main(String[] args) {
        Checks c = new Checks();
        c.sentence("Terms 1: A STATUTE is a text: {..} (none at all).", StatuteTest::emptyText);
        c.sentence("Terms 1: \"order\" (\"county\" | \"boats\" | \"told\") \";\".",
                StatuteTest::orderStatement);
        c.sentence("Terms 1: \"days\" NUMBER \"is\" NUMBER \";\".", StatuteTest::daysStatement);
        c.sentence("Terms 1: \"loss\" NUMBER \";\".", StatuteTest::lossStatement);
        c.sentence("Terms 1: \"private\" NUMBER \";\".", StatuteTest::privateStatement);
        c.sentence("Terms 1: \"fine\" NUMBER \";\".", StatuteTest::fineStatement);
        c.sentence("Terms 1: NUMBER: one to three digits.", StatuteTest::oneToThreeDigits);
        c.sentence("Terms 1: Tokens as long as they go.", StatuteTest::tokensAsLongAsTheyGo);
        c.sentence("Terms 1: \"order\" .. \"fine\": no other words.", StatuteTest::wordsByEachLetter);
        c.sentence("Terms 1: words of letters a to z, digits, \";\".", StatuteTest::bytesOfTokens);
        c.sentence("Terms 1: between them blanks (bytes 32 and 10).", StatuteTest::blanks);
        c.sentence("Terms 1: At most 16 statements.", StatuteTest::sixteenStatements);
        c.sentence("Terms 1: FAULT: the first byte of the first token that doesn't go on.",
                StatuteTest::faultOfAToken);
        c.sentence("Terms 1: FAULT: (or byte that begins none).", StatuteTest::faultOfAByte);
        c.sentence("Terms 1: FAULT: the text's length, if more must come.", StatuteTest::faultOfAnEnd);
        c.sentence("Terms 1: FAULT: the 17th statement: where it begins.", StatuteTest::faultOfASeventeenth);
        c.sentence("Terms 1: ORDER (the last; told).", StatuteTest::lastOrder);
        c.sentence("Terms 1: ALLOWED DAYS of a REACH (the last \"days\" of it; 3).", StatuteTest::lastDays);
        c.sentence("Terms 1: LOSS (thousandths; 20).", StatuteTest::lastLoss);
        c.sentence("Terms 1: PRIVATE (BAGS a BOAT; 2).", StatuteTest::lastPrivate);
        c.sentence("Terms 1: FINE (1).", StatuteTest::lastFine);
        c.end();
    }

    /** The text is a statute, of which law(0, what) is as due. */
    private static void good(Checks c, String text, int what, int want) {
        TributeFleet x = new TributeFleet(3);
        c.due("\"" + text + "\"", Texts.statute(x, text), 0);
        c.due("fault of \"" + text + "\"", x.fault(), -1);
        c.due("law(0, " + what + ") of \"" + text + "\"", x.law(0, what), want);
    }

    /** The text has its fault at that place, and nothing is taken. */
    private static void bad(Checks c, String text, int place) {
        TributeFleet x = new TributeFleet(3);
        c.due("\"" + text + "\"", Texts.statute(x, text), -1);
        c.due("fault of \"" + text + "\"", x.fault(), place);
        c.due("statutes after \"" + text + "\"", x.count(3), 0);
        c.due("law after \"" + text + "\"", x.law(0, 4), -1);
    }

    private static void emptyText(Checks c) {
        good(c, "", 4, 0);
        good(c, " ", 4, 0);
        good(c, "\n", 4, 0);
        good(c, " \n \n ", 4, 0);
        good(c, " ".repeat(400), 4, 0);
    }

    private static void orderStatement(Checks c) {
        good(c, "order county;", 0, 0);
        good(c, "order boats;", 0, 1);
        good(c, "order told;", 0, 2);
        bad(c, "order", 5);
        bad(c, "order ;", 6);
        bad(c, "order 5;", 6);
        bad(c, "order bags;", 6);
        bad(c, "order order;", 6);
        bad(c, "order boats", 11);
        bad(c, "order boats told;", 12);
        bad(c, "county;", 0);
    }

    private static void daysStatement(Checks c) {
        good(c, "days 1 is 7;", 11, 7);
        good(c, "days 1 is 0;", 11, 0);
        good(c, "days 1 is 999;", 11, 999);
        good(c, "days 3 is 7;", 13, -1);
        good(c, "days 999 is 7;", 12, 3);
        bad(c, "days", 4);
        bad(c, "days ;", 5);
        bad(c, "days is 7;", 5);
        bad(c, "days 1", 6);
        bad(c, "days 1 7;", 7);
        bad(c, "days 1 in 7;", 7);
        bad(c, "days 1;", 6);
        bad(c, "days 1 is", 9);
        bad(c, "days 1 is;", 9);
        bad(c, "days 1 is is 7;", 10);
        bad(c, "days 1 is 7", 11);
        bad(c, "days 1 is 7 7;", 12);
        bad(c, "is 7;", 0);
    }

    private static void numberStatement(Checks c, String word, int what) {
        int length = word.length();
        good(c, word + " 7;", what, 7);
        good(c, word + " 0;", what, 0);
        good(c, word + " 999;", what, 999);
        bad(c, word, length);
        bad(c, word + ";", length);
        bad(c, word + " fine;", length + 1);
        bad(c, word + " 7", length + 2);
        bad(c, word + " 7 7;", length + 3);
        bad(c, word + " 7;;", length + 3);
        bad(c, word + " 7 " + word + " 7;", length + 3);
    }

    private static void lossStatement(Checks c) {
        numberStatement(c, "loss", 1);
    }

    private static void privateStatement(Checks c) {
        numberStatement(c, "private", 2);
    }

    private static void fineStatement(Checks c) {
        numberStatement(c, "fine", 3);
    }

    private static void oneToThreeDigits(Checks c) {
        good(c, "loss 1;", 1, 1);
        good(c, "loss 12;", 1, 12);
        good(c, "loss 123;", 1, 123);
        good(c, "loss 007;", 1, 7);
        good(c, "loss 000;", 1, 0);
        bad(c, "loss ;", 5);
        bad(c, "loss 1234;", 5);
        bad(c, "loss 0001;", 5);
        bad(c, "loss 99999999999999999999;", 5);
        bad(c, "days 1234 is 1;", 5);
        bad(c, "days 1 is 1234;", 10);
        bad(c, "private 1234;", 8);
        bad(c, "fine 1234;", 5);
        bad(c, "loss 12 3;", 8);
        bad(c, "loss -1;", 5);
    }

    private static void tokensAsLongAsTheyGo(Checks c) {
        good(c, "loss5;fine6;", 3, 6);
        good(c, "days1is7;", 11, 7);
        bad(c, "losss 5;", 0);
        bad(c, "lossfine 5;", 0);
        bad(c, "los s 5;", 0);
        bad(c, "ordertold;", 0);
        bad(c, "order toldd;", 6);
        bad(c, "order tol;", 6);
        bad(c, "order countyboats;", 6);
        bad(c, "days 1 iss 7;", 7);
        bad(c, "days 1 i s 7;", 7);
        bad(c, "days 1 is7x;", 10);
        bad(c, "loss 5x;", 6);
    }

    /** No word of the text with one of its letters another. */
    private static void wordsByEachLetter(Checks c) {
        String[] texts = {"order county;", "order boats;", "order told;", "days 1 is 7;", "loss 5;",
            "private 5;", "fine 5;"};
        for (String text : texts) {
            for (int i = 0; i < text.length(); i++) {
                char sign = text.charAt(i);
                if (sign >= 'a' && sign <= 'z') {
                    String other = text.substring(0, i) + 'q' + text.substring(i + 1);
                    bad(c, other, text.lastIndexOf(' ', i) + 1);
                }
            }
        }
    }

    private static void bytesOfTokens(Checks c) {
        good(c, "private 0;", 2, 0);
        good(c, "private 9;", 2, 9);
        for (int sign = 0; sign < 256; sign++) {
            boolean isBlank = sign == ' ' || sign == '\n';
            boolean isDigit = sign >= '0' && sign <= '9';
            if (isBlank) {
                good(c, "fine 5" + (char) sign + ";", 3, 5);
            } else if (isDigit) {
                good(c, "fine 5" + (char) sign + ";", 3, 50 + sign - '0');
            } else {
                bad(c, "fine 5" + (char) sign + (sign == ';' ? ";" : ""), sign == ';' ? 7 : 6);
            }
        }
        bytesBehindAWord(c);
        bad(c, "`", 0);
        bad(c, "{", 0);
        bad(c, "a", 0);
        bad(c, "z", 0);
        bad(c, "losz 5;", 0);
        bad(c, "loSs 5;", 0);
        bad(c, "Loss 5;", 0);
        bad(c, "loss /;", 5);
        bad(c, "loss :;", 5);
    }

    /** A letter makes the word another one; a digit begins a number; others begin no token of it. */
    private static void bytesBehindAWord(Checks c) {
        for (int sign = 0; sign < 256; sign++) {
            String text = "loss" + (char) sign + " 5;";
            if (sign == ' ' || sign == '\n') {
                good(c, text, 1, 5);
            } else if (sign >= 'a' && sign <= 'z') {
                bad(c, text, 0);
            } else {
                bad(c, text, sign >= '0' && sign <= '9' ? 6 : 4);
            }
        }
    }

    private static void blanks(Checks c) {
        good(c, "\n order \n\n boats \n ; \n", 0, 1);
        good(c, "days\n1\nis\n7\n;\n", 11, 7);
        good(c, "fine" + " ".repeat(380) + "5;", 3, 5);
        for (int sign : new int[] {0, 8, 9, 11, 12, 13, 31, 33, 127, 133, 138, 160, 255}) {
            bad(c, "fine" + (char) sign + "5;", 4);
            bad(c, (char) sign + "fine 5;", 0);
            bad(c, "fine 5;" + (char) sign, 7);
        }
    }

    private static String statements(int many) {
        StringBuilder text = new StringBuilder();
        for (int i = 0; i < many; i++) {
            text.append("fine ").append(i).append(";\n");
        }
        return text.toString();
    }

    private static void sixteenStatements(Checks c) {
        good(c, statements(15), 3, 14);
        good(c, statements(16), 3, 15);
        good(c, statements(16) + " \n ", 3, 15);
        good(c, statements(15) + "order boats;", 0, 1);
        bad(c, statements(17), statements(16).length());
        bad(c, statements(20), statements(16).length());
    }

    private static void faultOfAToken(Checks c) {
        bad(c, "told;", 0);
        bad(c, ";", 0);
        bad(c, "5;", 0);
        bad(c, "  \n told;", 4);
        bad(c, "order told;\norder boat;", 18);
        bad(c, "fine 1; loss two; days", 13);
        bad(c, "fine 1; what 5; loss", 8);
        String last = statements(15) + "loss fine;";
        bad(c, last, last.length() - 5);
    }

    private static void faultOfAByte(Checks c) {
        bad(c, "?", 0);
        bad(c, "  -", 2);
        bad(c, "loss?5;", 4);
        bad(c, "loss ?5;", 5);
        bad(c, "loss 5?;", 6);
        bad(c, "loss 5;\u0000", 7);
        bad(c, "loss 5;\u00ff", 7);
        bad(c, "order \u00e1told;", 6);
        bad(c, "order to\u00e1ld;", 6);
        bad(c, "order told\u00a0;", 10);
        bad(c, "loss 5; fine \u0080;", 13);
    }

    private static void faultOfAnEnd(Checks c) {
        bad(c, "loss", 4);
        bad(c, "loss  \n", 7);
        bad(c, "loss 5", 6);
        bad(c, "loss 5 \n ", 9);
        bad(c, "fine 1; order", 13);
        bad(c, "order county ", 13);
        bad(c, "days 1 is ", 10);
        bad(c, statements(15) + "order told", statements(15).length() + 10);
        bad(c, "loss 5" + " ".repeat(394), 400);
        bad(c, "los", 0);
    }

    private static void faultOfASeventeenth(Checks c) {
        int length = statements(16).length();
        bad(c, statements(16) + "loss 1;", length);
        bad(c, statements(16) + " \n loss 1;", length + 3);
        bad(c, statements(16) + "order", length);
        bad(c, statements(16) + "  what", length + 2);
        bad(c, statements(16) + " ?", length + 1);
        bad(c, statements(16) + ";", length);
    }

    private static void lastOrder(Checks c) {
        good(c, "", 0, 2);
        good(c, "fine 5;", 0, 2);
        good(c, "order boats; order county;", 0, 0);
        good(c, "order county; order boats;", 0, 1);
        good(c, "order county; fine 5; order told;", 0, 2);
    }

    private static void lastDays(Checks c) {
        good(c, "", 11, 3);
        good(c, "days 0 is 5; days 2 is 6;", 11, 3);
        good(c, "days 1 is 5; days 2 is 6; days 1 is 7;", 11, 7);
        good(c, "days 1 is 5; days 2 is 6; days 1 is 7;", 12, 6);
        good(c, "days 1 is 5; days 13 is 6;", 11, 5);
    }

    private static void lastLoss(Checks c) {
        good(c, "", 1, 20);
        good(c, "loss 7; loss 5;", 1, 5);
    }

    private static void lastPrivate(Checks c) {
        good(c, "", 2, 2);
        good(c, "private 7; private 0;", 2, 0);
    }

    private static void lastFine(Checks c) {
        good(c, "", 3, 1);
        good(c, "fine 0; fine 8;", 3, 8);
    }
}
