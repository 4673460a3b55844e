/** Promises 1 to 6, 17 and 18: a new object, water, lock, lake, give, ice, reach, store. */
public final class CanalTest {
    private CanalTest() {
    }

    public static void main(String[] args) {
        Checks c = new Checks();
        c.sentence("1: So many REACHES (below 3, above 12: held to these).", CanalTest::reachesAreHeld);
        c.sentence("1: A new object (what it holds).", CanalTest::newObject);
        c.sentence("Terms 1: REACHES 0 to n - 1 (3 to 12).", CanalTest::firstAndLastReach);
        c.sentence("Terms 1: each with WATER 0 to 1,000 (100 at first).", CanalTest::leastAndMostWater);
        c.sentence("2: WATER of a REACH is told: true; false: not as told.", CanalTest::water);
        c.sentence("Terms 1: LOCK i lies between REACH i and i + 1 (i to n - 2).",
                CanalTest::firstAndLastLock);
        c.sentence("Terms 1: so many BOATS a DAY (1 to 60; 20 at first).", CanalTest::leastAndMostLockBoats);
        c.sentence("3: BOATS a DAY of a LOCK: true; false: not as told.", CanalTest::lock);
        c.sentence("Terms 1: LAKES, up to 4.", CanalTest::fourLakes);
        c.sentence("Terms 1: LAKES: at a REACH.", CanalTest::lakeAtAReach);
        c.sentence("Terms 1: LAKES: with a STORE 0 to 5,000.", CanalTest::leastAndMostStore);
        c.sentence("Terms 1: LAKES: giving so much a DAY (0 to 100).", CanalTest::leastAndMostGiven);
        c.sentence("Terms 1: LAKES: giving so much a DAY (0 at first).", CanalTest::givesNothingAtFirst);
        c.sentence("4: A LAKE: its number. NONE, doing nothing: not as told, 4 are there.", CanalTest::lake);
        c.sentence("5: What a LAKE gives a DAY: true; false: not as told.", CanalTest::give);
        c.sentence("6: ICE from a DAY on (0 to 400).", CanalTest::firstAndLastDayOfIce);
        c.sentence("6: ICE in all REACHES from one on.", CanalTest::firstAndLastReachOfIce);
        c.sentence("6: true; false: not as told.", CanalTest::iceNotAsTold);
        c.sentence("Terms 2: ICE: the latest telling holds.", CanalTest::iceOfTheLatestTelling);
        c.sentence("Terms 2: ICE: from a DAY on (told): untold there is none.", CanalTest::noIceUntold);
        c.sentence("17: WATER of a REACH (what 0).", CanalTest::waterOfAReach);
        c.sentence("17: BOATS in it (1).", CanalTest::boatsInAReach);
        c.sentence("17: whether there is ICE today (2: 1, 0).", CanalTest::iceToday);
        c.sentence("17: BOATS a DAY of the LOCK above it (3; NONE of the last).", CanalTest::lockAbove);
        c.sentence("17: NONE: none such.", CanalTest::noSuchReach);
        c.sentence("18: STORE of a LAKE. NONE: none such.", CanalTest::store);
        c.end();
    }

    private static void reachesAreHeld(Checks c) {
        int[] told = {Integer.MIN_VALUE, -12, -1, 0, 1, 2, 3, 4, 11, 12, 13, 1 << 16, Integer.MAX_VALUE};
        int[] held = {3, 3, 3, 3, 3, 3, 3, 4, 11, 12, 12, 12, 12};
        for (int i = 0; i < told.length; i++) {
            c.due("count(6) of " + told[i], new TributeFleet(told[i]).count(6), held[i]);
        }
    }

    private static void newObject(Checks c) {
        TributeFleet x = new TributeFleet(5);
        for (int what = 0; what < 6; what++) {
            c.due("count(" + what + ")", x.count(what), 0);
        }
        c.due("count(6)", x.count(6), 5);
        c.due("fault()", x.fault(), -1);
        c.due("store(0)", x.store(0), -1);
        c.due("told(0, 0)", x.told(0, 0), -1);
        c.due("NONE", TributeFleet.NONE, -1);
    }

    private static void firstAndLastReach(Checks c) {
        for (int n = 3; n <= 12; n++) {
            TributeFleet x = new TributeFleet(n);
            for (int i = 0; i < n; i++) {
                c.due("reach " + i + " of " + n, x.reach(i, 0), 100);
            }
            c.due("reach " + n + " of " + n, x.reach(n, 0), -1);
            c.due("reach -1 of " + n, x.reach(-1, 0), -1);
            c.bounds("water(?, 7) of " + n, 0, n - 1, reach -> x.water(reach, 7));
        }
    }

    private static void leastAndMostWater(Checks c) {
        TributeFleet x = new TributeFleet(4);
        for (int i = 0; i < 4; i++) {
            c.due("at first in " + i, x.reach(i, 0), 100);
            int reach = i;
            c.bounds("water(" + i + ", ?)", 0, 1000, much -> x.water(reach, much));
            c.due("the most stays in " + i, x.reach(i, 0), 1000);
            x.water(i, 0);
            c.due("the least in " + i, x.reach(i, 0), 0);
        }
    }

    private static void water(Checks c) {
        TributeFleet x = new TributeFleet(4);
        c.due("water(1, 250)", x.water(1, 250), true);
        c.due("water(1, 250) again", x.water(1, 250), true);
        c.due("water(1, 1001)", x.water(1, 1001), false);
        c.due("water(1, -1)", x.water(1, -1), false);
        c.due("water(4, 5)", x.water(4, 5), false);
        c.due("water(-1, 5)", x.water(-1, 5), false);
        int[] want = {100, 250, 100, 100};
        for (int i = 0; i < 4; i++) {
            c.due("reach(" + i + ", 0)", x.reach(i, 0), want[i]);
        }
    }

    private static void firstAndLastLock(Checks c) {
        for (int n = 3; n <= 12; n++) {
            TributeFleet x = new TributeFleet(n);
            c.bounds("lock(?, 7) of " + n, 0, n - 2, lock -> x.lock(lock, 7));
            for (int i = 0; i < n; i++) {
                int want = i == n - 1 ? -1 : i == 0 || i == n - 2 ? 7 : 20;
                c.due("lock " + i + " of " + n, x.reach(i, 3), want);
            }
        }
    }

    private static void leastAndMostLockBoats(Checks c) {
        TributeFleet x = new TributeFleet(4);
        for (int i = 0; i < 3; i++) {
            c.due("at first of " + i, x.reach(i, 3), 20);
            int lock = i;
            c.bounds("lock(" + i + ", ?)", 1, 60, boats -> x.lock(lock, boats));
            c.due("the most stays of " + i, x.reach(i, 3), 60);
            x.lock(i, 1);
            c.due("the least of " + i, x.reach(i, 3), 1);
        }
    }

    private static void lock(Checks c) {
        TributeFleet x = new TributeFleet(4);
        c.due("lock(1, 33)", x.lock(1, 33), true);
        c.due("lock(1, 33) again", x.lock(1, 33), true);
        c.due("lock(1, 0)", x.lock(1, 0), false);
        c.due("lock(1, 61)", x.lock(1, 61), false);
        c.due("lock(3, 5)", x.lock(3, 5), false);
        c.due("lock(-1, 5)", x.lock(-1, 5), false);
        int[] want = {20, 33, 20, -1};
        for (int i = 0; i < 4; i++) {
            c.due("reach(" + i + ", 3)", x.reach(i, 3), want[i]);
        }
    }

    private static void fourLakes(Checks c) {
        TributeFleet x = new TributeFleet(3);
        for (int i = 0; i < 4; i++) {
            c.due("lakes ahead of it", x.count(2), i);
            c.due("lake " + i, x.lake(i % 3, 100 + i), i);
        }
        c.due("a fifth", x.lake(0, 104), -1);
        c.due("and again", x.lake(0, 104), -1);
        c.due("lakes", x.count(2), 4);
        for (int i = 0; i < 4; i++) {
            c.due("store of " + i, x.store(i), 100 + i);
        }
        c.due("store of a fifth", x.store(4), -1);
    }

    private static void lakeAtAReach(Checks c) {
        for (int n = 3; n <= 12; n += 9) {
            TributeFleet x = new TributeFleet(n);
            c.bounds("lake(?, 5) of " + n, 0, n - 1, reach -> x.lake(reach, 5) != -1);
            c.due("lakes of " + n, x.count(2), 2);
            x.give(0, 1);
            x.give(1, 2);
            x.day();
            c.due("the first reach of " + n, x.reach(0, 0), 101);
            c.due("one between", x.reach(1, 0), 100);
            c.due("the last reach of " + n, x.reach(n - 1, 0), 102);
        }
    }

    private static void leastAndMostStore(Checks c) {
        TributeFleet x = new TributeFleet(3);
        c.bounds("lake(1, ?)", 0, 5000, store -> x.lake(1, store) != -1);
        c.due("lakes", x.count(2), 2);
        c.due("the least", x.store(0), 0);
        c.due("the most", x.store(1), 5000);
    }

    private static void leastAndMostGiven(Checks c) {
        TributeFleet x = new TributeFleet(3);
        x.lake(1, 5000);
        c.bounds("give(0, ?)", 0, 100, much -> x.give(0, much));
        x.day();
        c.due("store after the most", x.store(0), 4900);
        c.due("water after the most", x.reach(1, 0), 200);
        x.give(0, 0);
        x.day();
        c.due("store after the least", x.store(0), 4900);
        c.due("water after the least", x.reach(1, 0), 200);
    }

    private static void givesNothingAtFirst(Checks c) {
        TributeFleet x = new TributeFleet(3);
        x.lake(2, 5000);
        Days.pass(x, 3);
        c.due("store", x.store(0), 5000);
        c.due("water", x.reach(2, 0), 100);
    }

    private static void lake(Checks c) {
        TributeFleet x = new TributeFleet(3);
        c.due("a first", x.lake(2, 10), 0);
        c.due("in no reach", x.lake(3, 10), -1);
        c.due("too small a store", x.lake(0, -1), -1);
        c.due("too large a store", x.lake(0, 5001), -1);
        c.due("a second", x.lake(0, 20), 1);
        c.due("at the same reach", x.lake(0, 30), 2);
        c.due("a last", x.lake(1, 40), 3);
        c.due("a fifth", x.lake(2, 50), -1);
        c.due("a fifth not as told", x.lake(3, 50), -1);
        c.due("lakes", x.count(2), 4);
        for (int i = 0; i < 4; i++) {
            c.due("store of " + i, x.store(i), 10 * (i + 1));
        }
    }

    private static void give(Checks c) {
        TributeFleet x = new TributeFleet(3);
        c.due("no lake yet", x.give(0, 10), false);
        x.lake(1, 5000);
        x.lake(2, 500);
        c.bounds("give(?, 40)", 0, 1, lake -> x.give(lake, 40));
        c.due("give(1, 40) again", x.give(1, 40), true);
        c.due("give(1, 101)", x.give(1, 101), false);
        c.due("give(1, -1)", x.give(1, -1), false);
        x.day();
        c.due("store(0)", x.store(0), 4960);
        c.due("store(1)", x.store(1), 460);
        c.due("reach(2, 0)", x.reach(2, 0), 140);
    }

    private static void firstAndLastDayOfIce(Checks c) {
        TributeFleet x = new TributeFleet(3);
        c.bounds("ice(?, 1)", 0, 400, day -> x.ice(day, 1));
        c.due("ahead of day 400", x.reach(1, 2), 0);
        x.ice(0, 1);
        c.due("from day 0 on", x.reach(1, 2), 1);
        x.ice(400, 1);
        Days.pass(x, 399);
        c.due("on day 399", x.reach(1, 2), 0);
        x.day();
        c.due("on day 400", x.reach(1, 2), 1);
    }

    private static void firstAndLastReachOfIce(Checks c) {
        for (int n = 3; n <= 12; n += 9) {
            TributeFleet x = new TributeFleet(n);
            c.bounds("ice(0, ?) of " + n, 0, n - 1, reach -> x.ice(0, reach));
            for (int from = 0; from < n; from++) {
                x.ice(0, from);
                for (int i = 0; i < n; i++) {
                    c.due("from " + from + " on, in " + i, x.reach(i, 2), i >= from ? 1 : 0);
                }
            }
        }
    }

    private static void iceNotAsTold(Checks c) {
        TributeFleet x = new TributeFleet(4);
        c.due("ice(2, 1)", x.ice(2, 1), true);
        c.due("ice(2, 1) again", x.ice(2, 1), true);
        c.due("ice(401, 0)", x.ice(401, 0), false);
        c.due("ice(-1, 0)", x.ice(-1, 0), false);
        c.due("ice(0, 4)", x.ice(0, 4), false);
        c.due("ice(0, -1)", x.ice(0, -1), false);
        x.day();
        c.due("the day before", x.reach(1, 2), 0);
        x.day();
        c.due("below", x.reach(0, 2), 0);
        c.due("as told first", x.reach(1, 2), 1);
        Days.pass(x, 9);
        c.due("on later days", x.reach(3, 2), 1);
    }

    private static void iceOfTheLatestTelling(Checks c) {
        TributeFleet x = new TributeFleet(5);
        x.ice(0, 1);
        c.due("from 1 on", x.reach(1, 2), 1);
        x.ice(0, 3);
        c.due("no more in 1", x.reach(1, 2), 0);
        c.due("but in 3", x.reach(3, 2), 1);
        x.ice(5, 0);
        c.due("no more in 3", x.reach(3, 2), 0);
        Days.pass(x, 5);
        c.due("in 0 on day 5", x.reach(0, 2), 1);
        x.ice(6, 0);
        c.due("not yet again", x.reach(0, 2), 0);
        x.ice(4, 4);
        c.due("of a day gone by", x.reach(4, 2), 1);
    }

    private static void noIceUntold(Checks c) {
        TributeFleet x = new TributeFleet(3);
        for (int i = 0; i < 3; i++) {
            c.due("on day 0 in " + i, x.reach(i, 2), 0);
        }
        Days.pass(x, 400);
        for (int i = 0; i < 3; i++) {
            c.due("on day 400 in " + i, x.reach(i, 2), 0);
        }
    }

    private static void waterOfAReach(Checks c) {
        TributeFleet x = new TributeFleet(3);
        x.water(0, 11);
        x.water(2, 13);
        c.due("reach(0, 0)", x.reach(0, 0), 11);
        c.due("reach(1, 0)", x.reach(1, 0), 100);
        c.due("reach(2, 0)", x.reach(2, 0), 13);
    }

    private static void boatsInAReach(Checks c) {
        TributeFleet x = new TributeFleet(3);
        c.due("none", x.reach(0, 1), 0);
        x.squadron(0, 10, 0, 0);
        x.squadron(0, 5, 0, 0);
        c.due("of two squadrons", x.reach(0, 1), 15);
        x.lock(0, 12);
        x.day();
        c.due("left in 0", x.reach(0, 1), 5);
        c.due("in 1", x.reach(1, 1), 10);
        x.day();
        c.due("in the last", x.reach(2, 1), 10);
        Days.pass(x, 2);
        c.due("those that came stay", x.reach(2, 1), 15);
        c.due("none again", x.reach(0, 1), 0);
        for (int i = 0; i < 10; i++) {
            x.squadron(0, 50, 0, 0);
        }
        c.due("of ten of the most boats", x.reach(0, 1), 500);
    }

    private static void iceToday(Checks c) {
        TributeFleet x = new TributeFleet(3);
        c.due("none", x.reach(2, 2), 0);
        x.ice(1, 2);
        c.due("tomorrow's", x.reach(2, 2), 0);
        x.day();
        c.due("today's", x.reach(2, 2), 1);
        c.due("further up alone", x.reach(1, 2), 0);
    }

    private static void lockAbove(Checks c) {
        TributeFleet x = new TributeFleet(3);
        x.lock(0, 31);
        x.lock(1, 32);
        c.due("reach(0, 3)", x.reach(0, 3), 31);
        c.due("reach(1, 3)", x.reach(1, 3), 32);
        c.due("reach(2, 3)", x.reach(2, 3), -1);
        TributeFleet longest = new TributeFleet(12);
        c.due("reach(10, 3) of twelve", longest.reach(10, 3), 20);
        c.due("reach(11, 3) of twelve", longest.reach(11, 3), -1);
    }

    private static void noSuchReach(Checks c) {
        TributeFleet x = new TributeFleet(3);
        x.ice(0, 0);
        for (int what = 0; what < 4; what++) {
            int asked = what;
            c.bounds("reach(?, " + what + ")", 0, what == 3 ? 1 : 2, reach -> x.reach(reach, asked) != -1);
        }
        c.bounds("reach(0, ?)", 0, 3, what -> x.reach(0, what) != -1);
    }

    private static void store(Checks c) {
        TributeFleet x = new TributeFleet(3);
        c.due("no lake", x.store(0), -1);
        x.lake(1, 7);
        c.due("the first", x.store(0), 7);
        c.due("no second", x.store(1), -1);
        x.lake(1, 0);
        c.bounds("store(?)", 0, 1, lake -> x.store(lake) != -1);
        c.due("an empty one", x.store(1), 0);
        c.due("no fifth", x.store(4), -1);
    }
}
