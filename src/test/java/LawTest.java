/** Promise 11 and Terms 1: law, what is in force on a day. */
public final class LawTest {
    private LawTest() {
    }

    public static void main(String[] args) {
        Checks c = new Checks();
        c.sentence("Terms 1: it's in force from TODAY on.", LawTest::fromTodayOn);
        c.sentence("11: Of the STATUTE in force on a DAY (0 to 400).", LawTest::firstAndLastDayOfLaw);
        c.sentence("11: (0: 0 county, 1 boats, 2 told), LOSS (1), PRIVATE (2), FINE (3).", LawTest::lawOfOne);
        c.sentence("11: its number (4; NONE).", LawTest::numberInForce);
        c.sentence("11: 10 + r ALLOWED DAYS of REACH r.", LawTest::allowedDays);
        c.sentence("11: NONE for others.", LawTest::noSuchLaw);
        c.end();
    }

    private static void fromTodayOn(Checks c) {
        TributeFleet x = new TributeFleet(3);
        Days.pass(x, 2);
        Texts.statute(x, "fine 5; order county;");
        x.day();
        Texts.statute(x, "fine 6; loss 9;");
        Texts.statute(x, "fine 7;");
        int[] fine = {1, 1, 5, 7, 7};
        int[] order = {2, 2, 0, 2, 2};
        for (int day = 0; day < 5; day++) {
            c.due("fine on " + day, x.law(day, 3), fine[day]);
            c.due("order on " + day, x.law(day, 0), order[day]);
        }
        c.due("none takes from one ahead of it", x.law(3, 1), 20);
        Days.pass(x, 397);
        Texts.statute(x, "fine 8;");
        c.due("the day ahead of the last", x.law(399, 3), 7);
        c.due("on the last", x.law(400, 3), 8);
    }

    private static void firstAndLastDayOfLaw(Checks c) {
        TributeFleet x = new TributeFleet(3);
        c.bounds("law(?, 1)", 0, 400, day -> x.law(day, 1) == 20);
        Texts.statute(x, "loss 30;");
        c.bounds("law(?, 1) of one", 0, 400, day -> x.law(day, 1) == 30);
        for (int what : new int[] {0, 1, 2, 3, 4, 10}) {
            c.due("law(401, " + what + ")", x.law(401, what), -1);
            c.due("law(-1, " + what + ")", x.law(-1, what), -1);
        }
    }

    private static void lawOfOne(Checks c) {
        TributeFleet x = new TributeFleet(5);
        Texts.statute(x, "order boats; days 1 is 0; days 4 is 400; days 5 is 9; loss 1; "
                + "order county; days 1 is 7; loss 30; private 999; private 0; fine 12;");
        int[] want = {0, 30, 0, 12, 0};
        for (int what = 0; what < want.length; what++) {
            c.due("law(0, " + what + ")", x.law(0, what), want[what]);
        }
        Texts.statute(x, "order boats;");
        c.due("boats", x.law(0, 0), 1);
        Texts.statute(x, "order told;");
        c.due("told", x.law(0, 0), 2);
    }

    private static void numberInForce(Checks c) {
        TributeFleet x = new TributeFleet(3);
        c.due("none", x.law(0, 4), -1);
        x.day();
        c.due("none on a day ahead", x.law(400, 4), -1);
        x.statute(0);
        c.due("none on the day gone by", x.law(0, 4), -1);
        c.due("the first", x.law(1, 4), 0);
        x.day();
        for (int i = 1; i < 10; i++) {
            x.statute(0);
            c.due("number " + i, x.law(2, 4), i);
        }
        c.due("the first still", x.law(1, 4), 0);
        c.due("the tenth on the last day", x.law(400, 4), 9);
    }

    private static void allowedDays(Checks c) {
        for (int n = 3; n <= 12; n++) {
            TributeFleet x = new TributeFleet(n);
            Texts.statute(x, "days 0 is 1; days " + (n - 1) + " is 9; days " + n + " is 8;");
            for (int r = 0; r < n; r++) {
                int want = r == 0 ? 1 : r == n - 1 ? 9 : 3;
                c.due("law(0, " + (10 + r) + ") of " + n, x.law(0, 10 + r), want);
            }
            c.due("of none below", x.law(0, 9), -1);
            c.due("of none above " + n, x.law(0, 10 + n), -1);
        }
    }

    private static void noSuchLaw(Checks c) {
        TributeFleet x = new TributeFleet(4);
        Texts.statute(x, "loss 5;");
        for (int what = -3; what < 40; what++) {
            boolean isThere = what >= 0 && what <= 4 || what >= 10 && what <= 13;
            c.due("law(0, " + what + ") is there", x.law(0, what) != -1, isThere);
        }
        for (int shift = 6; shift < 32; shift++) {
            c.due("law(0, 1 << " + shift + ")", x.law(0, 1 << shift), -1);
        }
        c.due("wrapped around", x.law(0, Integer.MIN_VALUE + 9), -1);
        c.due("the most", x.law(0, Integer.MAX_VALUE), -1);
        TributeFleet y = new TributeFleet(3);
        c.due("of no statute", y.law(0, 5), -1);
        c.due("of no reach and no statute", y.law(0, 13), -1);
    }
}
