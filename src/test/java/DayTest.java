/** Promise 14 and Terms 2: what happens as a day goes by. */
public final class DayTest {
    private DayTest() {
    }

    public static void main(String[] args) {
        Checks c = new Checks();
        c.sentence("14: A DAY goes by: TODAY.", DayTest::eachDay);
        c.sentence("14: NONE, doing nothing: it's 400.", DayTest::noDayAfterTheLast);
        c.sentence("Terms 1: DAYS 0 to 400, TODAY is 0 at first.", DayTest::firstAndLastDay);
        lakes(c);
        locks(c);
        days(c);
        c.end();
    }

    private static void lakes(Checks c) {
        c.sentence("Terms 2 (a): each LAKE gives its REACH what it's told to.", DayTest::lakesGive);
        c.sentence("Terms 2 (a): as far as STORE goes.", DayTest::asFarAsStoreGoes);
        c.sentence("Terms 2 (a): and WATER up to 1,000 (the rest stays).", DayTest::asFarAsWaterGoes);
        c.sentence("Terms 2 (a), then (b): lakes give ahead of the locks.", DayTest::lakesAheadOfLocks);
    }

    private static void locks(Checks c) {
        c.sentence("Terms 2 (b): LOCK by LOCK, from the last down to LOCK 0.", DayTest::locksFromTheLastDown);
        c.sentence("Terms 2 (b): in ORDER.", DayTest::orders);
        c.sentence("Terms 1: alike ones by numbers.", DayTest::alikeOnes);
        c.sentence("Terms 2 (b): in ORDER of the STATUTE in force.", DayTest::orderOfTheDay);
        c.sentence("Terms 2 (b): if nothing of these bars it (the first tells why).",
                DayTest::theFirstTellsWhy);
        c.sentence("Terms 2 (b): 1 ICE in one of both REACHES.", DayTest::barredByIce);
        c.sentence("Terms 2 (b): 2 less WATER than 20 and its BOATS.", DayTest::barredByWater);
        c.sentence("Terms 2 (b): 3 the LOCK has fewer BOATS left on this DAY.", DayTest::barredByTheLock);
        c.sentence("Terms 2 (b): 4 one ahead of it didn't pass, no LEAVE.", DayTest::barredByOneAhead);
        c.sentence("Terms 2 (b): 4 ahead of it in ORDER.", DayTest::aheadInOrder);
        c.sentence("Terms 2 (b): 4 in the same REACH.", DayTest::aheadInTheSameReach);
        c.sentence("Terms 2 (b): 4 didn't pass on this DAY.", DayTest::aheadOnThisDay);
        c.sentence("Terms 2: Who passes takes its BOATS' number of WATER into the lower one.",
                DayTest::waterMoves);
        c.sentence("Terms 2: (up to 1,000; the rest is gone).", DayTest::waterThatIsGone);
        c.sentence("Terms 2: None passes two LOCKS on a DAY.", DayTest::oneLockADay);
    }

    private static void days(Checks c) {
        c.sentence("Terms 2: a DAY more in the REACH in which it was as the DAY began.", DayTest::aDayMore);
        c.sentence("Terms 2: Each SQUADRON not at the capital.", DayTest::noDaysAtTheCapital);
        c.sentence("Terms 2: if it didn't pass, one more by that cause (1 to 4).", DayTest::aDayByCause);
        c.sentence("Terms 2: Who comes to the last REACH has come on that DAY.", DayTest::dayOfComing);
        c.sentence("Terms 2: ICE: from a DAY on, of all REACHES from one on.", DayTest::iceOnItsDay);
        c.sentence("An object is used for at most 512 calls.", DayTest::lastOfManyCalls);
    }

    private static void eachDay(Checks c) {
        TributeFleet x = new TributeFleet(3);
        for (int day = 1; day <= 400; day++) {
            c.due("day " + day, x.day(), day);
        }
    }

    private static void noDayAfterTheLast(Checks c) {
        TributeFleet x = new TributeFleet(3);
        x.squadron(0, 1, 0, 0);
        x.lake(0, 5000);
        x.give(0, 1);
        x.ice(0, 0);
        Days.pass(x, 400);
        c.due("no more days", x.day(), -1);
        c.due("and again", x.day(), -1);
        c.due("today", x.count(0), 400);
        c.due("its days", x.told(0, 10), 400);
        c.due("its days by ice", x.told(0, 31), 400);
        c.due("the lake's store", x.store(0), 4600);
        c.due("water", x.reach(0, 0), 500);
        x.ice(400, 2);
        x.day();
        c.due("none passes then", x.told(0, 0), 0);
        c.due("why on the latest day", x.told(0, 3), 1);
    }

    private static void firstAndLastDay(Checks c) {
        TributeFleet x = new TributeFleet(3);
        c.due("at first", x.count(0), 0);
        Days.pass(x, 399);
        c.due("the last but one", x.count(0), 399);
        c.due("the last", x.day(), 400);
        c.due("today", x.count(0), 400);
    }

    private static void lakesGive(Checks c) {
        TributeFleet x = new TributeFleet(3);
        x.lake(0, 50);
        x.lake(2, 500);
        x.lake(2, 100);
        x.give(0, 30);
        x.give(1, 100);
        x.give(2, 10);
        x.day();
        int[] water = {130, 100, 210};
        int[] store = {20, 400, 90};
        for (int i = 0; i < 3; i++) {
            c.due("water of " + i, x.reach(i, 0), water[i]);
            c.due("store of " + i, x.store(i), store[i]);
        }
    }

    private static void asFarAsStoreGoes(Checks c) {
        int[] stores = {0, 29, 30, 31};
        for (int store : stores) {
            TributeFleet x = new TributeFleet(3);
            x.lake(1, store);
            x.give(0, 30);
            x.day();
            int given = Math.min(store, 30);
            c.due("left of " + store, x.store(0), store - given);
            c.due("water of " + store, x.reach(1, 0), 100 + given);
            x.day();
            c.due("left of " + store + " a day later", x.store(0), 0);
            c.due("water of " + store + " a day later", x.reach(1, 0), 100 + store);
        }
    }

    private static void asFarAsWaterGoes(Checks c) {
        int[] waters = {969, 970, 971, 999, 1000};
        for (int water : waters) {
            TributeFleet x = new TributeFleet(3);
            x.lake(1, 500);
            x.give(0, 30);
            x.water(1, water);
            x.day();
            int given = Math.min(1000 - water, 30);
            c.due("water of " + water, x.reach(1, 0), water + given);
            c.due("what stays by " + water, x.store(0), 500 - given);
        }
        TributeFleet x = new TributeFleet(3);
        x.lake(2, 100);
        x.lake(2, 100);
        x.give(0, 10);
        x.give(1, 10);
        x.water(2, 985);
        x.day();
        c.due("the first of two", x.store(0), 90);
        c.due("the second of two", x.store(1), 95);
        c.due("water of both", x.reach(2, 0), 1000);
    }

    private static void lakesAheadOfLocks(Checks c) {
        TributeFleet x = new TributeFleet(3);
        x.squadron(0, 10, 0, 0);
        x.water(1, 20);
        x.lake(1, 100);
        x.give(0, 10);
        x.water(0, 1000);
        x.lake(0, 100);
        x.give(1, 10);
        x.day();
        c.due("passes by the lake's water", x.told(0, 0), 1);
        c.due("water above", x.reach(1, 0), 20);
        c.due("the lower lake gives none", x.store(1), 100);
    }

    private static void locksFromTheLastDown(Checks c) {
        TributeFleet x = new TributeFleet(3);
        x.squadron(0, 10, 0, 0);
        x.day();
        x.squadron(0, 10, 0, 0);
        x.water(1, 20);
        x.day();
        c.due("the upper lock gives the water", x.told(1, 0), 1);
        c.due("and it's used", x.reach(1, 0), 20);
        x = new TributeFleet(3);
        x.squadron(0, 10, 0, 0);
        x.day();
        x.squadron(0, 10, 0, 0);
        x.water(1, 995);
        x.day();
        c.due("what is above 1,000 is gone ahead of lock 0", x.reach(1, 0), 990);
    }

    /** Three, of which the lock lets one a day pass. */
    private static TributeFleet three(String order) {
        TributeFleet x = new TributeFleet(3);
        x.squadron(2, 4, 0, 0);
        x.squadron(3, 6, 0, 0);
        x.squadron(1, 5, 0, 0);
        x.lock(0, 6);
        Texts.statute(x, order);
        return x;
    }

    private static void line(Checks c, String order, int first, int second, int third) {
        TributeFleet x = three(order);
        int[] passes = {first, second, third};
        for (int day = 0; day < 3; day++) {
            c.due("\"" + order + "\" ahead of " + day, x.told(passes[day], 0), 0);
            x.day();
            c.due("\"" + order + "\" on " + day, x.told(passes[day], 0), 1);
        }
    }

    private static void orders(Checks c) {
        line(c, "", 0, 1, 2);
        line(c, "order told;", 0, 1, 2);
        line(c, "order county;", 2, 0, 1);
        line(c, "order boats;", 1, 2, 0);
        line(c, "order boats; order county;", 2, 0, 1);
    }

    private static void alikeOnes(Checks c) {
        String[] texts = {"order county;", "order boats;", "order told;"};
        for (String text : texts) {
            TributeFleet x = new TributeFleet(3);
            for (int i = 0; i < 5; i++) {
                x.squadron(4, 7, 0, 0);
            }
            x.lock(0, 7);
            Texts.statute(x, text);
            for (int i = 0; i < 5; i++) {
                c.due("not yet, " + text + i, x.told(i, 0), 0);
                x.day();
                c.due("by numbers, " + text + i, x.told(i, 0), 1);
            }
        }
        pairs(c, "order boats;", 10);
        pairs(c, "order county;", 10);
    }

    /** Squadrons 1 and 3 are ahead by their boats and by their counties. */
    private static void pairs(Checks c, String text, int lockBoats) {
        TributeFleet x = new TributeFleet(3);
        int[] boats = {3, 5, 3, 5};
        for (int i = 0; i < 4; i++) {
            x.squadron(1 - i % 2, boats[i], 0, 0);
        }
        x.lock(0, lockBoats);
        Texts.statute(x, text);
        x.day();
        for (int i = 0; i < 4; i++) {
            c.due("the pair ahead, " + text + i, x.told(i, 0), i % 2);
        }
    }

    private static void orderOfTheDay(Checks c) {
        TributeFleet x = three("");
        x.day();
        Texts.statute(x, "order county;");
        x.day();
        c.due("by the statute taken today", x.told(2, 0), 1);
        c.due("the other waits", x.told(1, 0), 0);
        Texts.statute(x, "order bags;");
        x.squadron(0, 6, 0, 0);
        x.day();
        c.due("a fault changes nothing", x.told(3, 0), 1);
        Texts.statute(x, "");
        x.squadron(0, 6, 0, 0);
        x.day();
        c.due("one without an order: as they were told", x.told(1, 0), 1);
        c.due("the latest waits", x.told(4, 3), 3);
    }

    /** The first of two squadrons of 10 boats each, behind which the other has no leave. */
    private static TributeFleet barredByAll() {
        TributeFleet x = new TributeFleet(3);
        x.squadron(0, 10, 0, 0);
        x.squadron(0, 10, 0, 0);
        x.ice(0, 1);
        x.water(1, 29);
        x.lock(0, 9);
        return x;
    }

    private static void theFirstTellsWhy(Checks c) {
        TributeFleet x = barredByAll();
        int[] first = {1, 2, 3, 0};
        int[] other = {1, 2, 3, 3};
        for (int day = 0; day < 4; day++) {
            if (day == 1) {
                x.ice(400, 0);
            } else if (day == 2) {
                x.water(1, 30);
            } else if (day == 3) {
                x.lock(0, 10);
                x.water(1, 40);
            }
            x.day();
            c.due("why on " + day, x.told(0, 3), first[day]);
            c.due("why of the other on " + day, x.told(1, 3), other[day]);
        }
        x = barredByAll();
        x.ice(400, 0);
        x.water(1, 100);
        x.squadron(0, 9, 0, 0);
        x.day();
        c.due("only then that one ahead didn't pass", x.told(2, 3), 4);
    }

    /** One of 10 boats; a day of it: its cause, where it is then. */
    private static void oneOf10(Checks c, String when, TributeFleet x, int cause) {
        x.day();
        c.due("cause by " + when, x.told(0, 3), cause);
        c.due("reach by " + when, x.told(0, 0), cause == 0 ? 1 : 0);
        c.due("boats above by " + when, x.reach(1, 1), cause == 0 ? 10 : 0);
    }

    private static TributeFleet one() {
        TributeFleet x = new TributeFleet(3);
        x.squadron(0, 10, 0, 0);
        return x;
    }

    private static void barredByIce(Checks c) {
        TributeFleet x = one();
        x.ice(0, 1);
        oneOf10(c, "ice in the upper reach", x, 1);
        x = one();
        x.ice(0, 0);
        oneOf10(c, "ice in both", x, 1);
        x = one();
        x.ice(0, 2);
        oneOf10(c, "ice further up", x, 0);
        x.day();
        c.due("ice in the upper reach then", x.told(0, 3), 1);
    }

    private static void barredByWater(Checks c) {
        TributeFleet x = one();
        x.water(1, 29);
        oneOf10(c, "29 of water", x, 2);
        c.due("none is taken", x.reach(1, 0), 29);
        x = one();
        x.water(1, 30);
        x.water(0, 0);
        x.water(2, 0);
        oneOf10(c, "30 of water", x, 0);
        c.due("20 stay", x.reach(1, 0), 20);
        x = one();
        x.water(1, 0);
        oneOf10(c, "no water", x, 2);
        x = new TributeFleet(3);
        x.squadron(0, 50, 0, 0);
        x.lock(0, 50);
        x.water(1, 69);
        x.day();
        c.due("69 for 50 boats", x.told(0, 3), 2);
        x.water(1, 70);
        x.day();
        c.due("70 for 50 boats", x.told(0, 3), 0);
        x = new TributeFleet(3);
        x.squadron(0, 10, 0, 0);
        x.squadron(0, 6, 0, 0);
        x.water(1, 35);
        x.day();
        c.due("the first took what the second needs", x.told(1, 3), 2);
        c.due("what is left", x.reach(1, 0), 25);
    }

    private static void barredByTheLock(Checks c) {
        TributeFleet x = one();
        x.lock(0, 9);
        x.lock(1, 60);
        oneOf10(c, "9 boats a day", x, 3);
        x = one();
        x.lock(0, 10);
        x.lock(1, 1);
        oneOf10(c, "10 boats a day", x, 0);
        x = new TributeFleet(3);
        x.squadron(0, 12, 0, 0);
        x.squadron(0, 8, 0, 0);
        x.squadron(0, 1, 0, 0);
        x.day();
        c.due("all 20 of the lock", x.told(1, 0), 1);
        c.due("none left", x.told(2, 3), 3);
        x.day();
        c.due("on the next day they are anew", x.told(2, 0), 1);
        x = new TributeFleet(3);
        x.squadron(0, 12, 0, 0);
        x.squadron(0, 9, 0, 0);
        x.squadron(0, 8, 0, 0);
        x.leave(2, true);
        x.day();
        c.due("one too many", x.told(1, 3), 3);
        c.due("those left for one with leave", x.told(2, 3), 0);
    }

    private static void barredByOneAhead(Checks c) {
        TributeFleet x = new TributeFleet(3);
        x.lock(0, 12);
        x.squadron(0, 5, 0, 0);
        x.squadron(0, 15, 0, 0);
        x.squadron(0, 4, 0, 0);
        x.squadron(0, 3, 0, 0);
        x.leave(3, true);
        x.day();
        c.due("the one ahead passes", x.told(0, 3), 0);
        c.due("too many boats", x.told(1, 3), 3);
        c.due("behind it", x.told(2, 3), 4);
        c.due("with leave", x.told(3, 3), 0);
        x.leave(2, true);
        x.leave(2, false);
        x.day();
        c.due("leave taken back", x.told(2, 3), 4);
        x.leave(2, true);
        x.day();
        c.due("leave given", x.told(2, 0), 1);
        c.due("the one overtaken waits on", x.told(1, 33), 3);
        x.lock(0, 15);
        x.day();
        c.due("and passes at last", x.told(1, 0), 1);
        x = new TributeFleet(3);
        x.squadron(0, 21, 0, 0);
        x.squadron(0, 1, 0, 0);
        x.squadron(0, 1, 0, 0);
        x.leave(0, true);
        x.day();
        c.due("leave of the one ahead is of no use", x.told(1, 3), 4);
        c.due("behind two", x.told(2, 3), 4);
    }

    private static void aheadInOrder(Checks c) {
        TributeFleet x = new TributeFleet(3);
        x.squadron(1, 2, 0, 0);
        x.squadron(0, 9, 0, 0);
        x.squadron(0, 1, 0, 0);
        x.lock(0, 8);
        Texts.statute(x, "order county;");
        x.day();
        c.due("the first of its county is too big", x.told(1, 3), 3);
        c.due("behind it in its county", x.told(2, 3), 4);
        c.due("behind both", x.told(0, 3), 4);
        Texts.statute(x, "");
        x.day();
        c.due("now it's ahead", x.told(0, 3), 0);
        c.due("the last is still behind", x.told(2, 3), 4);
    }

    private static void aheadInTheSameReach(Checks c) {
        TributeFleet x = new TributeFleet(4);
        x.squadron(0, 10, 0, 0);
        x.day();
        x.squadron(0, 10, 0, 0);
        x.lock(1, 5);
        x.day();
        c.due("it stays in reach 1", x.told(0, 3), 3);
        c.due("one ahead in another reach bars none", x.told(1, 0), 1);
        x.squadron(0, 4, 0, 0);
        x.day();
        c.due("nor do two", x.told(2, 0), 1);
        x.day();
        c.due("in the same reach they do", x.told(2, 3), 4);
        x.leave(2, true);
        x.lock(2, 3);
        x.day();
        c.due("by leave past both", x.told(2, 0), 2);
        x.lock(1, 20);
        x.day();
        c.due("one barred further up bars none", x.told(0, 0), 2);
    }

    private static void aheadOnThisDay(Checks c) {
        TributeFleet x = new TributeFleet(3);
        x.squadron(0, 10, 0, 0);
        x.squadron(0, 4, 0, 0);
        x.lock(0, 9);
        x.day();
        c.due("behind it on that day", x.told(1, 3), 4);
        x.lock(0, 14);
        x.day();
        c.due("the one ahead passes", x.told(0, 0), 1);
        c.due("on the same day the other", x.told(1, 0), 1);
    }

    private static void waterMoves(Checks c) {
        TributeFleet x = new TributeFleet(3);
        x.squadron(0, 10, 0, 0);
        x.squadron(0, 6, 0, 0);
        x.day();
        c.due("into the lower", x.reach(0, 0), 116);
        c.due("out of the upper", x.reach(1, 0), 84);
        c.due("none out of the last", x.reach(2, 0), 100);
        x.day();
        c.due("none out of the first", x.reach(0, 0), 116);
        c.due("into the one between", x.reach(1, 0), 100);
        c.due("out of the last", x.reach(2, 0), 84);
    }

    private static void waterThatIsGone(Checks c) {
        int[] waters = {989, 990, 991, 1000};
        for (int water : waters) {
            TributeFleet x = one();
            x.water(0, water);
            x.day();
            c.due("in the lower of " + water, x.reach(0, 0), Math.min(1000, water + 10));
            c.due("in the upper by " + water, x.reach(1, 0), 90);
        }
    }

    private static void oneLockADay(Checks c) {
        TributeFleet x = new TributeFleet(12);
        x.squadron(0, 1, 0, 0);
        for (int day = 1; day <= 11; day++) {
            x.day();
            c.due("reach after " + day, x.told(0, 0), day);
        }
    }

    private static void aDayMore(Checks c) {
        TributeFleet x = new TributeFleet(4);
        x.squadron(0, 1, 0, 0);
        x.day();
        c.due("in 0, where it was", x.told(0, 10), 1);
        c.due("not in 1, where it is", x.told(0, 11), 0);
        x.ice(0, 2);
        Days.pass(x, 2);
        c.due("in 1 twice", x.told(0, 11), 2);
        c.due("in 0 once", x.told(0, 10), 1);
        c.due("in 2 never", x.told(0, 12), 0);
    }

    private static void noDaysAtTheCapital(Checks c) {
        TributeFleet x = new TributeFleet(3);
        x.squadron(0, 1, 0, 0);
        Days.pass(x, 2);
        x.ice(0, 0);
        Days.pass(x, 9);
        int[] days = {1, 1, 0};
        for (int r = 0; r < 3; r++) {
            c.due("days in " + r, x.told(0, 10 + r), days[r]);
        }
        c.due("days by ice", x.told(0, 31), 0);
    }

    private static void aDayByCause(Checks c) {
        TributeFleet x = new TributeFleet(3);
        x.squadron(0, 21, 0, 0);
        x.squadron(0, 1, 0, 0);
        x.day();
        x.ice(0, 0);
        Days.pass(x, 2);
        int[] first = {2, 0, 1, 0};
        int[] other = {2, 0, 0, 1};
        for (int i = 0; i < 4; i++) {
            c.due("by cause " + (i + 1), x.told(0, 31 + i), first[i]);
            c.due("the other's by cause " + (i + 1), x.told(1, 31 + i), other[i]);
        }
        x.ice(400, 0);
        x.lock(0, 22);
        x.day();
        for (int i = 0; i < 4; i++) {
            c.due("none as it passes by cause " + (i + 1), x.told(0, 31 + i), first[i]);
        }
        c.due("four days there", x.told(0, 10), 4);
    }

    private static void dayOfComing(Checks c) {
        TributeFleet x = new TributeFleet(3);
        x.squadron(0, 1, 0, 0);
        Days.pass(x, 2);
        c.due("on the day that went by", x.told(0, 1), 1);
        c.due("those that came", x.count(5), 1);
        Days.pass(x, 396);
        x.squadron(0, 1, 0, 0);
        Days.pass(x, 2);
        c.due("today", x.count(0), 400);
        c.due("on the last that goes by", x.told(1, 1), 399);
    }

    private static void iceOnItsDay(Checks c) {
        TributeFleet x = new TributeFleet(4);
        x.squadron(0, 10, 0, 0);
        x.ice(1, 2);
        x.day();
        c.due("the day ahead of it", x.told(0, 3), 0);
        x.day();
        c.due("on its day", x.told(0, 3), 1);
        x.squadron(0, 10, 0, 0);
        x.day();
        c.due("later", x.told(0, 3), 1);
        c.due("below it", x.told(1, 3), 0);
        x.ice(1, 3);
        x.day();
        c.due("of those from 3 on", x.told(0, 0), 2);
        c.due("and no more of 2", x.told(1, 0), 2);
        x.day();
        c.due("but of 3", x.told(0, 3), 1);
    }

    private static void lastOfManyCalls(Checks c) {
        TributeFleet x = new TributeFleet(12);
        Days.pass(x, 400);
        for (int call = 401; call <= 510; call++) {
            c.due("call " + call, x.day(), -1);
        }
        c.due("call 511", x.squadron(5, 50, 5000, 2000), 0);
        c.due("call 512", x.told(0, 2), 5000);
    }
}
