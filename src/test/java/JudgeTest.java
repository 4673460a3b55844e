/** Promise 16 and the judging of Terms 3. */
public final class JudgeTest {
    private JudgeTest() {
    }

    public static void main(String[] args) {
        Checks c = new Checks();
        c.sentence("16: JUDGED: OVER (0), SHORT (1), GOODS (2), COINS (3).", JudgeTest::eachOfOne);
        c.sentence("16: NONE: none such.", JudgeTest::noneSuch);
        c.sentence("16: NONE: it hasn't come.", JudgeTest::notYetCome);
        c.sentence("Terms 3: by the STATUTE in force on the DAY on which it came.",
                JudgeTest::statuteOfTheDay);
        c.sentence("Terms 3: by the STATUTE in force: where none is.", JudgeTest::withoutStatute);
        c.sentence("Terms 3: OVER: the DAYS above ALLOWED ones.", JudgeTest::overAllowed);
        c.sentence("Terms 3: OVER: in all REACHES but the last, added.", JudgeTest::overInAllReaches);
        c.sentence("Terms 3: OVER: the most DAYS that there are.", JudgeTest::mostDaysOver);
        c.sentence("Terms 3: SHORT: BAGS lost above LOSS thousandths of what was loaded.",
                JudgeTest::shortOfBags);
        c.sentence("Terms 3: SHORT: (cut).", JudgeTest::shortIsCut);
        c.sentence("Terms 3: GOODS: private BAGS above PRIVATE times BOATS.", JudgeTest::goods);
        c.sentence("Terms 3: COINS: FINE times these three added.", JudgeTest::coins);
        c.end();
    }

    private static void eachOfOne(Checks c) {
        TributeFleet x = new TributeFleet(3);
        Texts.statute(x, "fine 7; days 0 is 0; loss 100; private 1;");
        x.squadron(0, 5, 100, 9);
        x.lose(0, 25);
        Days.pass(x, 2);
        int[] want = {1, 15, 4, 140};
        for (int what = 0; what < 4; what++) {
            c.due("judge(0, " + what + ")", x.judge(0, what), want[what]);
        }
    }

    private static void noneSuch(Checks c) {
        TributeFleet x = new TributeFleet(3);
        c.due("of none", x.judge(0, 0), -1);
        x.squadron(0, 5, 100, 0);
        x.squadron(0, 5, 100, 0);
        Days.pass(x, 2);
        for (int what = 0; what < 4; what++) {
            int asked = what;
            c.bounds("judge(?, " + what + ")", 0, 1, squadron -> x.judge(squadron, asked) == 0);
        }
        c.bounds("judge(0, ?)", 0, 3, what -> x.judge(0, what) != -1);
        for (int what : new int[] {10, 31, 100}) {
            c.due("judge(0, " + what + ")", x.judge(0, what), -1);
        }
    }

    private static void notYetCome(Checks c) {
        TributeFleet x = new TributeFleet(3);
        x.squadron(0, 5, 100, 50);
        for (int what = 0; what < 4; what++) {
            c.due("told just now, " + what, x.judge(0, what), -1);
        }
        x.day();
        x.ice(0, 2);
        x.day();
        for (int what = 0; what < 4; what++) {
            c.due("ahead of the last, " + what, x.judge(0, what), -1);
        }
        x.ice(400, 2);
        x.day();
        c.due("as it has come", x.judge(0, 2), 40);
    }

    private static void statuteOfTheDay(Checks c) {
        TributeFleet x = new TributeFleet(3);
        Texts.statute(x, "private 3;");
        x.squadron(0, 5, 0, 100);
        x.day();
        Texts.statute(x, "private 4;");
        x.squadron(0, 5, 0, 100);
        x.day();
        c.due("by the one taken on the day of its coming", x.judge(0, 2), 80);
        Texts.statute(x, "private 5;");
        c.due("not by the one of the day after", x.judge(0, 2), 80);
        Texts.statute(x, "private 6;");
        x.day();
        c.due("by the latest of two of its day", x.judge(1, 2), 70);
        Texts.statute(x, "private 7;");
        c.due("it stays so", x.judge(1, 2), 70);
        c.due("and that of the other", x.judge(0, 2), 80);
    }

    private static void withoutStatute(Checks c) {
        TributeFleet x = new TributeFleet(3);
        x.squadron(0, 5, 1000, 11);
        x.lose(0, 21);
        x.ice(0, 0);
        Days.pass(x, 3);
        x.ice(400, 0);
        Days.pass(x, 2);
        Texts.statute(x, "fine 9; days 0 is 0; loss 0; private 0;");
        int[] want = {1, 1, 1, 3};
        for (int what = 0; what < 4; what++) {
            c.due("judge(0, " + what + ")", x.judge(0, what), want[what]);
        }
    }

    private static void overAllowed(Checks c) {
        for (int waits = 0; waits < 6; waits++) {
            TributeFleet x = new TributeFleet(3);
            x.squadron(0, 5, 100, 0);
            x.ice(0, 0);
            Days.pass(x, waits);
            x.ice(400, 0);
            Days.pass(x, 2);
            c.due("over after " + waits, x.judge(0, 0), Math.max(0, waits + 1 - 3));
        }
    }

    private static void overInAllReaches(Checks c) {
        TributeFleet x = new TributeFleet(4);
        Texts.statute(x, "days 0 is 1; days 1 is 9; days 2 is 0; days 3 is 0;");
        x.squadron(0, 5, 100, 0);
        int[] waits = {4, 2, 1};
        for (int wait : waits) {
            x.ice(0, 0);
            Days.pass(x, wait);
            x.ice(400, 0);
            x.day();
        }
        // 5 days in reach 0, 3 in reach 1, 2 in reach 2
        c.due("4 and 0 and 2", x.judge(0, 0), 6);
        Days.pass(x, 20);
        c.due("none at the capital", x.judge(0, 0), 6);
    }

    private static void mostDaysOver(Checks c) {
        TributeFleet x = new TributeFleet(3);
        Texts.statute(x, "days 0 is 0; days 1 is 0; fine 999;");
        x.squadron(0, 5, 0, 0);
        x.ice(0, 2);
        Days.pass(x, 399);
        x.ice(400, 2);
        x.day();
        c.due("it came on", x.told(0, 1), 399);
        c.due("over", x.judge(0, 0), 400);
        c.due("coins", x.judge(0, 3), 400 * 999);
        TributeFleet y = new TributeFleet(3);
        Texts.statute(y, "days 0 is 999; days 1 is 395;");
        y.squadron(0, 5, 0, 0);
        y.ice(0, 2);
        Days.pass(y, 396);
        y.ice(400, 2);
        y.day();
        c.due("396 days above 395", y.judge(0, 0), 1);
    }

    private static void bags(Checks c, String text, int bags, int lost, int want) {
        TributeFleet x = new TributeFleet(3);
        Texts.statute(x, text);
        x.squadron(0, 5, bags, 0);
        x.lose(0, lost);
        Days.pass(x, 2);
        c.due(lost + " lost of " + bags + " by \"" + text + "\"", x.judge(0, 1), want);
    }

    private static void shortOfBags(Checks c) {
        bags(c, "", 1000, 0, 0);
        bags(c, "", 1000, 19, 0);
        bags(c, "", 1000, 20, 0);
        bags(c, "", 1000, 21, 1);
        bags(c, "", 1000, 1000, 980);
        bags(c, "", 5000, 5000, 4900);
        bags(c, "", 0, 0, 0);
        bags(c, "loss 0;", 100, 1, 1);
        bags(c, "loss 0;", 100, 0, 0);
        bags(c, "loss 999;", 5000, 4995, 0);
        bags(c, "loss 999;", 5000, 4996, 1);
    }

    private static void shortIsCut(Checks c) {
        bags(c, "", 49, 1, 1);
        bags(c, "", 50, 1, 0);
        bags(c, "", 149, 3, 1);
        bags(c, "", 150, 3, 0);
        bags(c, "", 161, 4, 1);
        bags(c, "loss 999;", 999, 999, 1);
        bags(c, "loss 999;", 1, 1, 1);
        bags(c, "loss 1;", 999, 1, 1);
        bags(c, "loss 1;", 1000, 1, 0);
    }

    private static void goods(Checks c) {
        TributeFleet x = new TributeFleet(3);
        int[] boats = {5, 5, 5, 1, 2};
        int[] goods = {9, 10, 11, 2000, 0};
        int[] want = {0, 0, 1, 1998, 0};
        for (int i = 0; i < boats.length; i++) {
            x.squadron(0, boats[i], 0, goods[i]);
        }
        Days.pass(x, 2);
        for (int i = 0; i < boats.length; i++) {
            c.due("goods of " + i, x.judge(i, 2), want[i]);
        }
        Texts.statute(x, "private 0;");
        x.squadron(0, 5, 0, 1);
        x.squadron(0, 5, 0, 0);
        Days.pass(x, 2);
        c.due("none is free", x.judge(5, 2), 1);
        c.due("none of none", x.judge(6, 2), 0);
        Texts.statute(x, "private 999;");
        x.squadron(0, 2, 0, 1998);
        x.squadron(0, 2, 0, 1999);
        Days.pass(x, 2);
        c.due("as many as allowed", x.judge(7, 2), 0);
        c.due("one more", x.judge(8, 2), 1);
    }

    private static void coins(Checks c) {
        TributeFleet x = new TributeFleet(3);
        Texts.statute(x, "fine 0; private 0;");
        x.squadron(0, 5, 0, 9);
        Days.pass(x, 2);
        c.due("no fine", x.judge(0, 3), 0);
        c.due("goods all the same", x.judge(0, 2), 9);
        Texts.statute(x, "fine 999; days 0 is 0; days 1 is 0; loss 0; private 0;");
        x.squadron(0, 5, 5000, 2000);
        x.lose(1, 5000);
        Days.pass(x, 2);
        c.due("the most", x.judge(1, 3), 999 * (2 + 5000 + 2000));
        x.squadron(0, 5, 5000, 0);
        Days.pass(x, 2);
        c.due("over alone", x.judge(2, 3), 999 * 2);
    }
}
