/** Promise 16: judge. */
public final class JudgeTest {
    private JudgeTest() {
    }

    public static void main(String[] args) {
        Checks c = new Checks();
        notYet(c);
        over(c);
        overOfEachReach(c);
        shortOfBags(c);
        goods(c);
        coins(c);
        statuteOfTheDay(c);
        c.end();
    }

    private static void notYet(Checks c) {
        TributeFleet x = new TributeFleet(3);
        c.due("16: no squadron", x.judge(0, 0), -1);
        x.squadron(0, 5, 100, 0);
        c.due("16: on the way", x.judge(0, 0), -1);
        x.day();
        c.due("16: still on the way", x.judge(0, 3), -1);
        x.day();
        for (int what = 0; what < 4; what++) {
            c.due("16: nothing is due " + what, x.judge(0, what), 0);
        }
        c.due("16: judge(0, 4)", x.judge(0, 4), -1);
        c.due("16: judge(0, -1)", x.judge(0, -1), -1);
        c.due("16: judge(1, 0)", x.judge(1, 0), -1);
        c.due("16: judge(-1, 0)", x.judge(-1, 0), -1);
    }

    private static void days(TributeFleet x, int days) {
        for (int i = 0; i < days; i++) {
            x.day();
        }
    }

    private static void over(Checks c) {
        for (int waits = 0; waits < 6; waits++) {
            TributeFleet x = new TributeFleet(3);
            x.squadron(0, 5, 100, 0);
            x.ice(0, 0);
            days(x, waits);
            x.ice(400, 0);
            days(x, 2);
            c.due("16: over after " + waits, x.judge(0, 0), Math.max(0, waits + 1 - 3));
            c.due("16: coins after " + waits, x.judge(0, 3), Math.max(0, waits + 1 - 3));
            days(x, 9);
            c.due("16: days at the capital count for nothing " + waits, x.judge(0, 0),
                    Math.max(0, waits + 1 - 3));
        }
    }

    private static void overOfEachReach(Checks c) {
        TributeFleet x = new TributeFleet(4);
        Texts.statute(x, "days 0 is 1; days 1 is 9; days 2 is 0; days 3 is 0;");
        x.squadron(0, 5, 100, 0);
        x.ice(0, 0);
        days(x, 4);
        x.ice(400, 0);
        x.day();
        x.ice(0, 0);
        days(x, 2);
        x.ice(400, 0);
        x.day();
        x.ice(0, 0);
        x.day();
        x.ice(400, 0);
        x.day();
        // 5 days in reach 0, 3 in reach 1, 2 in reach 2
        c.due("16: 4 and 0 and 2", x.judge(0, 0), 6);
    }

    private static void shortOfBags(Checks c) {
        int[] bags = {1000, 1000, 1000, 161, 161, 49, 0, 5000};
        int[] lost = {20, 21, 1000, 3, 4, 1, 0, 5000};
        int[] want = {0, 1, 980, 0, 1, 1, 0, 4900};
        for (int i = 0; i < bags.length; i++) {
            TributeFleet x = new TributeFleet(3);
            x.squadron(0, 5, bags[i], 0);
            x.lose(0, lost[i]);
            days(x, 2);
            c.due("16: " + lost[i] + " lost of " + bags[i], x.judge(0, 1), want[i]);
        }
        TributeFleet x = new TributeFleet(3);
        Texts.statute(x, "loss 999;");
        x.squadron(0, 5, 999, 0);
        x.squadron(0, 5, 5000, 0);
        x.lose(0, 999);
        x.lose(1, 4999);
        days(x, 2);
        c.due("16: 998.001 is cut", x.judge(0, 1), 1);
        c.due("16: 4995 thousandths of 5000", x.judge(1, 1), 4);
    }

    private static void goods(Checks c) {
        TributeFleet x = new TributeFleet(3);
        x.squadron(0, 5, 0, 10);
        x.squadron(0, 5, 0, 11);
        x.squadron(0, 1, 0, 2000);
        x.squadron(0, 2, 0, 0);
        days(x, 2);
        int[] want = {0, 1, 1998, 0};
        for (int i = 0; i < 4; i++) {
            c.due("16: goods of " + i, x.judge(i, 2), want[i]);
        }
        Texts.statute(x, "private 0;");
        x.squadron(0, 5, 0, 3);
        days(x, 2);
        c.due("16: none is free", x.judge(4, 2), 3);
    }

    private static void coins(Checks c) {
        TributeFleet x = new TributeFleet(3);
        Texts.statute(x, "fine 7; days 0 is 0; loss 100; private 1;");
        x.squadron(0, 5, 100, 9);
        x.squadron(0, 5, 100, 9);
        x.lose(0, 25);
        days(x, 2);
        c.due("16: over", x.judge(0, 0), 1);
        c.due("16: short", x.judge(0, 1), 15);
        c.due("16: goods", x.judge(0, 2), 4);
        c.due("16: coins", x.judge(0, 3), 140);
        c.due("16: of the other", x.judge(1, 3), 35);
        TributeFleet free = new TributeFleet(3);
        Texts.statute(free, "fine 0; private 0;");
        free.squadron(0, 5, 0, 9);
        days(free, 2);
        c.due("16: no fine", free.judge(0, 3), 0);
        c.due("16: goods all the same", free.judge(0, 2), 9);
    }

    private static void statuteOfTheDay(Checks c) {
        TributeFleet x = new TributeFleet(3);
        Texts.statute(x, "private 3;");
        x.squadron(0, 5, 0, 100);
        x.day();
        Texts.statute(x, "private 4;");
        x.squadron(0, 5, 0, 100);
        x.day();
        c.due("16: by the one taken ahead of its coming", x.judge(0, 2), 80);
        Texts.statute(x, "private 5;");
        c.due("16: not by the one of the day after", x.judge(0, 2), 80);
        x.day();
        c.due("16: but by it who came then", x.judge(1, 2), 75);
        Texts.statute(x, "private 6;");
        c.due("16: it stays so", x.judge(1, 2), 75);
    }
}
