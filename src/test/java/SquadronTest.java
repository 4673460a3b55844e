/** Promises 7, 12, 13 and 15: squadron, leave, lose, told. */
public final class SquadronTest {
    private SquadronTest() {
    }

    public static void main(String[] args) {
        Checks c = new Checks();
        c.sentence("Terms 1: SQUADRONS, up to 12.", SquadronTest::twelveSquadrons);
        c.sentence("Terms 1: SQUADRONS: a COUNTY 0 to 5.", SquadronTest::leastAndMostCounty);
        c.sentence("Terms 1: SQUADRONS: BOATS 1 to 50.", SquadronTest::leastAndMostBoats);
        c.sentence("Terms 1: SQUADRONS: BAGS 0 to 5,000.", SquadronTest::leastAndMostBags);
        c.sentence("Terms 1: SQUADRONS: private BAGS 0 to 2,000.", SquadronTest::leastAndMostGoods);
        c.sentence("Terms 1: They begin in REACH 0, as they are told.", SquadronTest::beginInReachZero);
        c.sentence("7: A SQUADRON: its number. NONE, doing nothing: not as told, 12 are there.",
                SquadronTest::squadron);
        c.sentence("12: LEAVE to overtake: true; false, doing nothing: it's so.",
                SquadronTest::leaveThatIsSo);
        c.sentence("12: LEAVE: false, doing nothing: no such SQUADRON.", SquadronTest::leaveOfNoSquadron);
        c.sentence("Terms 2: LEAVE is given till it's taken back.", SquadronTest::leaveTillTakenBack);
        c.sentence("13: BAGS more are lost (1 on).", SquadronTest::loseAtLeastOne);
        c.sentence("13: BAGS more are lost (not more than are left).", SquadronTest::loseNoMoreThanAreLeft);
        c.sentence("13: ahead of its coming. NONE, doing nothing: it has come.",
                SquadronTest::loseAheadOfItsComing);
        c.sentence("13: how many are left. NONE, doing nothing: not as told.", SquadronTest::loseNotAsTold);
        c.sentence("15: 0 REACH.", SquadronTest::toldReach);
        c.sentence("15: 1 the DAY on which it came (NONE).", SquadronTest::toldDayOfComing);
        c.sentence("15: 2 BAGS left.", SquadronTest::toldBagsLeft);
        c.sentence("15: 3 why it didn't pass on the latest DAY (0: it passed).", SquadronTest::toldWhyPassed);
        c.sentence("15: 3 why it didn't pass on the latest DAY (0: it had come).",
                SquadronTest::toldWhyHadCome);
        c.sentence("15: 3 why it didn't pass (0: none went by since it was told).", SquadronTest::toldWhyNew);
        c.sentence("15: 4 DAYS in its REACH so far.", SquadronTest::toldDaysSoFar);
        c.sentence("15: 5 LEAVE (1).", SquadronTest::toldLeave);
        c.sentence("15: 10 + r DAYS in REACH r.", SquadronTest::toldDaysInReaches);
        c.sentence("15: 31 to 34 DAYS by cause 1 to 4.", SquadronTest::toldDaysByCause);
        c.sentence("15: NONE where there is none such: no such SQUADRON.", SquadronTest::toldOfNoSquadron);
        c.sentence("15: NONE where there is none such: nothing such of it.", SquadronTest::toldOfNothing);
        c.end();
    }

    private static void twelveSquadrons(Checks c) {
        TributeFleet x = new TributeFleet(3);
        for (int i = 0; i < 12; i++) {
            c.due("squadron " + i, x.squadron(i % 6, 1 + i, 10 * i, 0), i);
        }
        c.due("a thirteenth", x.squadron(0, 1, 0, 0), -1);
        c.due("and again", x.squadron(0, 1, 0, 0), -1);
        c.due("squadrons", x.count(1), 12);
        c.due("boats of the twelve", x.reach(0, 1), 78);
        c.due("the first", x.told(0, 2), 0);
        c.due("the twelfth", x.told(11, 2), 110);
        c.due("no thirteenth", x.told(12, 2), -1);
        Days.pass(x, 20);
        c.due("all have come", x.count(5), 12);
        c.due("no thirteenth then either", x.squadron(0, 1, 0, 0), -1);
    }

    private static void leastAndMostCounty(Checks c) {
        TributeFleet x = new TributeFleet(3);
        c.bounds("squadron(?, 1, 7, 0)", 0, 5, county -> x.squadron(county, 1, 7, 0) != -1);
        c.due("squadrons", x.count(1), 2);
        Days.pass(x, 2);
        for (int county = 0; county < 6; county++) {
            c.due("came of " + county, x.county(county, 3), county == 0 || county == 5 ? 7 : 0);
        }
    }

    private static void leastAndMostBoats(Checks c) {
        TributeFleet x = new TributeFleet(3);
        c.bounds("squadron(0, ?, 0, 0)", 1, 50, boats -> x.squadron(0, boats, 0, 0) != -1);
        c.due("squadrons", x.count(1), 2);
        c.due("their boats", x.reach(0, 1), 51);
    }

    private static void leastAndMostBags(Checks c) {
        TributeFleet x = new TributeFleet(3);
        c.bounds("squadron(0, 1, ?, 0)", 0, 5000, bags -> x.squadron(0, 1, bags, 0) != -1);
        c.due("squadrons", x.count(1), 2);
        c.due("the least", x.told(0, 2), 0);
        c.due("the most", x.told(1, 2), 5000);
    }

    private static void leastAndMostGoods(Checks c) {
        TributeFleet x = new TributeFleet(3);
        c.bounds("squadron(0, 1, 0, ?)", 0, 2000, goods -> x.squadron(0, 1, 0, goods) != -1);
        c.due("squadrons", x.count(1), 2);
        Days.pass(x, 2);
        c.due("above 2 of the least", x.judge(0, 2), 0);
        c.due("above 2 of the most", x.judge(1, 2), 1998);
    }

    private static void beginInReachZero(Checks c) {
        TributeFleet x = new TributeFleet(3);
        x.squadron(0, 1, 0, 0);
        c.due("the first", x.told(0, 0), 0);
        x.day();
        x.squadron(0, 1, 0, 0);
        c.due("the first a day later", x.told(0, 0), 1);
        c.due("the one told then", x.told(1, 0), 0);
        Days.pass(x, 399);
        c.due("one told on the last day", x.squadron(5, 2, 0, 0), 2);
        c.due("it is there", x.told(2, 0), 0);
        c.due("its boats", x.reach(0, 1), 2);
    }

    private static void squadron(Checks c) {
        TributeFleet x = new TributeFleet(3);
        c.due("a county too many", x.squadron(6, 1, 0, 0), -1);
        c.due("no boats", x.squadron(0, 0, 0, 0), -1);
        c.due("a bag too many", x.squadron(0, 1, 5001, 0), -1);
        c.due("a private bag too many", x.squadron(0, 1, 0, 2001), -1);
        c.due("squadrons", x.count(1), 0);
        c.due("boats", x.reach(0, 1), 0);
        c.due("the first", x.squadron(0, 1, 0, 0), 0);
        c.due("a boat too many", x.squadron(0, 51, 0, 0), -1);
        c.due("the second", x.squadron(0, 1, 0, 0), 1);
        c.due("one alike", x.squadron(0, 1, 0, 0), 2);
        for (int i = 3; i < 12; i++) {
            c.due("number " + i, x.squadron(1, 1, 1, 1), i);
        }
        c.due("a thirteenth", x.squadron(1, 1, 1, 1), -1);
        c.due("a thirteenth not as told", x.squadron(6, 1, 1, 1), -1);
        c.due("squadrons at last", x.count(1), 12);
        c.due("boats at last", x.reach(0, 1), 12);
    }

    private static void leaveThatIsSo(Checks c) {
        TributeFleet x = new TributeFleet(3);
        x.squadron(0, 1, 0, 0);
        x.squadron(0, 1, 0, 0);
        c.due("none at first", x.leave(0, false), false);
        c.due("still none", x.told(0, 5), 0);
        c.due("given", x.leave(0, true), true);
        c.due("given again", x.leave(0, true), false);
        c.due("still given", x.told(0, 5), 1);
        c.due("the other has none", x.told(1, 5), 0);
        c.due("taken back", x.leave(0, false), true);
        c.due("taken back again", x.leave(0, false), false);
        c.due("still taken back", x.told(0, 5), 0);
        c.due("given anew", x.leave(0, true), true);
    }

    private static void leaveOfNoSquadron(Checks c) {
        TributeFleet x = new TributeFleet(3);
        c.due("of none", x.leave(0, true), false);
        x.squadron(0, 1, 0, 0);
        c.due("not taken by the one told later", x.told(0, 5), 0);
        x.squadron(0, 1, 0, 0);
        c.bounds("leave(?, true)", 0, 1, squadron -> x.leave(squadron, true));
        c.bounds("leave(?, false)", 0, 1, squadron -> x.leave(squadron, false));
        c.due("leave(12, true)", x.leave(12, true), false);
    }

    private static void leaveTillTakenBack(Checks c) {
        TributeFleet x = new TributeFleet(3);
        x.squadron(0, 15, 0, 0);
        x.squadron(0, 4, 0, 0);
        x.leave(1, true);
        x.ice(0, 0);
        x.day();
        c.due("over a day", x.told(1, 5), 1);
        Days.pass(x, 30);
        c.due("over many", x.told(1, 5), 1);
        x.ice(400, 0);
        x.lock(0, 14);
        x.day();
        c.due("it overtakes", x.told(1, 0), 1);
        c.due("over that too", x.told(1, 5), 1);
        x.day();
        c.due("and as it has come", x.told(1, 5), 1);
        c.due("taken back then", x.leave(1, false), true);
        c.due("told so", x.told(1, 5), 0);
    }

    private static void loseAtLeastOne(Checks c) {
        TributeFleet x = new TributeFleet(3);
        x.squadron(0, 1, 100, 0);
        c.due("lose(0, 0)", x.lose(0, 0), -1);
        c.due("lose(0, -1)", x.lose(0, -1), -1);
        c.due("the least of all numbers", x.lose(0, Integer.MIN_VALUE), -1);
        c.due("nothing is lost", x.told(0, 2), 100);
        c.due("lose(0, 1)", x.lose(0, 1), 99);
        c.due("one is lost", x.told(0, 2), 99);
    }

    private static void loseNoMoreThanAreLeft(Checks c) {
        TributeFleet x = new TributeFleet(3);
        x.squadron(0, 1, 100, 0);
        x.squadron(0, 1, 0, 0);
        c.due("lose(0, 101)", x.lose(0, 101), -1);
        c.due("the most of all numbers", x.lose(0, Integer.MAX_VALUE), -1);
        c.due("lose(0, 40)", x.lose(0, 40), 60);
        c.due("lose(0, 61)", x.lose(0, 61), -1);
        c.due("60 are left", x.told(0, 2), 60);
        c.due("all of them", x.lose(0, 60), 0);
        c.due("one more", x.lose(0, 1), -1);
        c.due("none is left", x.told(0, 2), 0);
        c.due("of one that has none", x.lose(1, 1), -1);
        c.due("none of none", x.lose(1, 0), -1);
        x.squadron(0, 1, 5000, 0);
        c.due("the most that there are", x.lose(2, 5000), 0);
    }

    private static void loseAheadOfItsComing(Checks c) {
        TributeFleet x = new TributeFleet(3);
        x.squadron(0, 5, 100, 0);
        x.day();
        c.due("in the last but one", x.lose(0, 10), 90);
        x.day();
        c.due("it has come", x.told(0, 0), 2);
        c.due("no more then", x.lose(0, 1), -1);
        c.due("what was left", x.told(0, 2), 90);
        Days.pass(x, 2);
        c.due("nor later", x.lose(0, 90), -1);
    }

    private static void loseNotAsTold(Checks c) {
        TributeFleet x = new TributeFleet(3);
        c.due("of none", x.lose(0, 1), -1);
        x.squadron(0, 1, 10, 0);
        x.squadron(0, 1, 10, 0);
        c.bounds("lose(?, 1)", 0, 1, squadron -> x.lose(squadron, 1) != -1);
        c.due("left of 0", x.lose(0, 2), 7);
        c.due("left of 1", x.lose(1, 9), 0);
        c.due("lose(0, 8)", x.lose(0, 8), -1);
        c.due("told of 0", x.told(0, 2), 7);
    }

    private static void toldReach(Checks c) {
        TributeFleet x = new TributeFleet(12);
        x.squadron(0, 1, 0, 0);
        for (int day = 0; day < 12; day++) {
            c.due("on " + day, x.told(0, 0), day);
            x.day();
        }
        c.due("the last is the capital's", x.told(0, 0), 11);
    }

    private static void toldDayOfComing(Checks c) {
        TributeFleet x = new TributeFleet(3);
        x.squadron(0, 1, 0, 0);
        c.due("told just now", x.told(0, 1), -1);
        x.day();
        c.due("on the way", x.told(0, 1), -1);
        x.day();
        c.due("it came on the day that went by", x.told(0, 1), 1);
        Days.pass(x, 396);
        c.due("that stays", x.told(0, 1), 1);
        x.squadron(0, 1, 0, 0);
        Days.pass(x, 2);
        c.due("the last day that goes by", x.told(1, 1), 399);
        x.squadron(0, 1, 0, 0);
        c.due("one that never comes", x.told(2, 1), -1);
    }

    private static void toldBagsLeft(Checks c) {
        TributeFleet x = new TributeFleet(3);
        x.squadron(0, 1, 33, 9);
        c.due("all at first", x.told(0, 2), 33);
        x.lose(0, 32);
        c.due("one", x.told(0, 2), 1);
        x.lose(0, 1);
        c.due("none", x.told(0, 2), 0);
        Days.pass(x, 3);
        c.due("none at the capital", x.told(0, 2), 0);
    }

    private static void toldWhyPassed(Checks c) {
        TributeFleet x = new TributeFleet(4);
        x.squadron(0, 10, 0, 0);
        x.lock(0, 9);
        x.day();
        c.due("barred", x.told(0, 3), 3);
        x.lock(0, 10);
        x.day();
        c.due("it passed", x.told(0, 3), 0);
        x.ice(0, 3);
        x.day();
        c.due("passed again", x.told(0, 3), 0);
        x.day();
        c.due("barred by ice", x.told(0, 3), 1);
    }

    private static void toldWhyHadCome(Checks c) {
        TributeFleet x = new TributeFleet(3);
        x.squadron(0, 10, 0, 0);
        x.lock(1, 9);
        Days.pass(x, 2);
        c.due("barred", x.told(0, 3), 3);
        x.lock(1, 10);
        x.day();
        c.due("as it comes", x.told(0, 3), 0);
        x.ice(0, 0);
        x.day();
        c.due("it had come", x.told(0, 3), 0);
        c.due("no days by ice", x.told(0, 31), 0);
    }

    private static void toldWhyNew(Checks c) {
        TributeFleet x = new TributeFleet(3);
        x.squadron(0, 10, 0, 0);
        c.due("no day at all", x.told(0, 3), 0);
        x.ice(0, 0);
        x.day();
        x.squadron(0, 10, 0, 0);
        c.due("the one told ahead of the day", x.told(0, 3), 1);
        c.due("none since it was told", x.told(1, 3), 0);
        x.day();
        c.due("one since", x.told(1, 3), 1);
    }

    private static void toldDaysSoFar(Checks c) {
        TributeFleet x = new TributeFleet(3);
        x.squadron(0, 10, 0, 0);
        c.due("none", x.told(0, 4), 0);
        x.ice(0, 0);
        Days.pass(x, 2);
        c.due("two", x.told(0, 4), 2);
        x.ice(400, 0);
        x.day();
        c.due("none in the next", x.told(0, 4), 0);
        x.ice(0, 0);
        x.day();
        c.due("one there", x.told(0, 4), 1);
        x.ice(400, 0);
        Days.pass(x, 5);
        c.due("none at the capital", x.told(0, 4), 0);
        x.ice(0, 0);
        x.squadron(0, 10, 0, 0);
        Days.pass(x, 391);
        c.due("today", x.count(0), 400);
        c.due("to the last day", x.told(1, 4), 391);
    }

    private static void toldLeave(Checks c) {
        TributeFleet x = new TributeFleet(3);
        x.squadron(0, 1, 0, 0);
        c.due("none", x.told(0, 5), 0);
        x.leave(0, true);
        c.due("given", x.told(0, 5), 1);
        x.leave(0, false);
        c.due("taken back", x.told(0, 5), 0);
    }

    private static void toldDaysInReaches(Checks c) {
        for (int n = 3; n <= 12; n += 9) {
            TributeFleet x = new TributeFleet(n);
            x.squadron(0, 1, 0, 0);
            for (int r = 0; r < n; r++) {
                c.due("at first in " + r, x.told(0, 10 + r), 0);
            }
            x.ice(0, n - 1);
            Days.pass(x, 3 * n);
            for (int r = 0; r < n; r++) {
                int want = r == n - 1 ? 0 : r == n - 2 ? 2 * n + 2 : 1;
                c.due("days in " + r + " of " + n, x.told(0, 10 + r), want);
            }
            c.due("in none below", x.told(0, 9), -1);
            c.due("in none above", x.told(0, 10 + n), -1);
        }
    }

    private static void toldDaysByCause(Checks c) {
        TributeFleet x = new TributeFleet(3);
        x.squadron(0, 10, 0, 0);
        x.squadron(0, 3, 0, 0);
        x.ice(0, 0);
        x.day();
        x.ice(400, 0);
        x.water(1, 0);
        Days.pass(x, 2);
        x.water(1, 100);
        x.lock(0, 9);
        Days.pass(x, 3);
        int[] first = {1, 2, 3, 0};
        int[] other = {1, 2, 0, 3};
        for (int i = 0; i < 4; i++) {
            c.due("of cause " + (i + 1), x.told(0, 31 + i), first[i]);
            c.due("the other's of cause " + (i + 1), x.told(1, 31 + i), other[i]);
        }
        c.due("told(0, 30)", x.told(0, 30), -1);
        c.due("told(0, 35)", x.told(0, 35), -1);
    }

    private static void toldOfNoSquadron(Checks c) {
        TributeFleet x = new TributeFleet(3);
        c.due("of none", x.told(0, 0), -1);
        x.squadron(0, 1, 5, 0);
        x.squadron(0, 1, 5, 0);
        c.bounds("told(?, 2)", 0, 1, squadron -> x.told(squadron, 2) != -1);
        c.due("told(12, 2)", x.told(12, 2), -1);
        c.due("told(2, 31)", x.told(2, 31), -1);
    }

    private static void toldOfNothing(Checks c) {
        TributeFleet x = new TributeFleet(4);
        x.squadron(2, 7, 33, 0);
        Days.pass(x, 9);
        for (int what = -3; what < 50; what++) {
            boolean isThere = what >= 0 && what <= 5 || what >= 10 && what <= 13 || what >= 31 && what <= 34;
            c.due("told(0, " + what + ") is there", x.told(0, what) != -1, isThere);
        }
        for (int shift = 6; shift < 32; shift++) {
            c.due("told(0, 1 << " + shift + ")", x.told(0, 1 << shift), -1);
        }
        c.due("wrapped around", x.told(0, Integer.MIN_VALUE + 9), -1);
        c.due("wrapped around by causes", x.told(0, Integer.MIN_VALUE + 30), -1);
        c.due("the most", x.told(0, Integer.MAX_VALUE), -1);
    }
}
