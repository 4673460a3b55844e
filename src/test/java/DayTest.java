/** Promise 14, and what a day does to promises 12, 15, 17 and 18. */
public final class DayTest {
    private DayTest() {
    }

    public static void main(String[] args) {
        Checks c = new Checks();
        fourHundredDays(c);
        lakesGive(c);
        lakesGiveAheadOfLocks(c);
        barredByIce(c);
        barredByWater(c);
        barredByTheLock(c);
        barredByOneAhead(c);
        oneAheadIsInTheSameReach(c);
        waterMoves(c);
        locksFromTheLastDown(c);
        oneLockADay(c);
        orders(c);
        alikeOnes(c);
        orderOfTheDay(c);
        theOrderDecidesWhoIsAhead(c);
        c.end();
    }

    private static void fourHundredDays(Checks c) {
        TributeFleet x = new TributeFleet(3);
        x.squadron(0, 1, 0, 0);
        x.ice(0, 0);
        for (int day = 1; day <= 400; day++) {
            c.due("14: day " + day, x.day(), day);
        }
        c.due("14: told of it", x.told(0, 10), 400);
        c.due("14: no more days", x.day(), -1);
        c.due("14: today", x.count(0), 400);
        c.due("14: nothing done", x.told(0, 10), 400);
        c.due("14: nothing done by cause", x.told(0, 31), 400);
    }

    private static void lakesGive(Checks c) {
        TributeFleet x = new TributeFleet(3);
        x.lake(0, 50);
        x.lake(1, 500);
        x.lake(2, 100);
        x.lake(2, 100);
        x.give(0, 30);
        x.give(1, 100);
        x.give(2, 10);
        x.give(3, 10);
        x.water(1, 970);
        x.water(2, 985);
        x.day();
        int[] water = {130, 1000, 1000};
        int[] store = {20, 470, 90, 95};
        for (int i = 0; i < 3; i++) {
            c.due("14: water of " + i, x.reach(i, 0), water[i]);
        }
        for (int i = 0; i < 4; i++) {
            c.due("14: store of " + i, x.store(i), store[i]);
        }
        x.day();
        c.due("14: as far as the store goes", x.reach(0, 0), 150);
        c.due("14: nothing left", x.store(0), 0);
        c.due("14: no room for more", x.store(1), 470);
    }

    private static void lakesGiveAheadOfLocks(Checks c) {
        TributeFleet x = new TributeFleet(3);
        x.squadron(0, 10, 0, 0);
        x.water(1, 20);
        x.lake(1, 100);
        x.give(0, 10);
        x.day();
        c.due("14: passes by the lake's water", x.told(0, 0), 1);
        c.due("14: water above", x.reach(1, 0), 20);
        c.due("14: water below", x.reach(0, 0), 110);
    }

    /** A squadron of 10 boats at reach 0 of three, with 100 water and 20 boats a day. */
    private static TributeFleet one() {
        TributeFleet x = new TributeFleet(3);
        x.squadron(0, 10, 0, 0);
        return x;
    }

    private static void why(Checks c, String when, TributeFleet x, int cause) {
        x.day();
        c.due("14: " + when, x.told(0, 3), cause);
        c.due("14: reach, " + when, x.told(0, 0), cause == 0 ? 1 : 0);
        c.due("14: days there, " + when, x.told(0, 10), 1);
        for (int i = 1; i <= 4; i++) {
            c.due("14: days by " + i + ", " + when, x.told(0, 30 + i), i == cause ? 1 : 0);
        }
    }

    private static void barredByIce(Checks c) {
        TributeFleet x = one();
        x.ice(0, 1);
        why(c, "ice in the upper reach", x, 1);
        x = one();
        x.ice(0, 0);
        x.water(1, 0);
        x.lock(0, 1);
        why(c, "ice ahead of other causes", x, 1);
        x = one();
        x.ice(0, 2);
        why(c, "ice further up", x, 0);
        x = one();
        x.ice(1, 0);
        why(c, "ice from tomorrow on", x, 0);
        x.day();
        c.due("14: ice on that morrow", x.told(0, 3), 1);
    }

    private static void barredByWater(Checks c) {
        TributeFleet x = one();
        x.water(1, 29);
        x.lock(0, 1);
        why(c, "low water ahead of the lock", x, 2);
        c.due("14: no water is moved", x.reach(1, 0), 29);
        x = one();
        x.water(1, 30);
        x.water(0, 0);
        x.water(2, 0);
        why(c, "just enough water", x, 0);
        c.due("14: twenty stay", x.reach(1, 0), 20);
    }

    private static void barredByTheLock(Checks c) {
        TributeFleet x = one();
        x.lock(0, 9);
        x.lock(1, 60);
        why(c, "a boat too many", x, 3);
        x = one();
        x.lock(0, 10);
        x.lock(1, 1);
        why(c, "just enough boats a day", x, 0);
        x = new TributeFleet(3);
        x.squadron(0, 12, 0, 0);
        x.squadron(0, 8, 0, 0);
        x.squadron(0, 1, 0, 0);
        x.lock(0, 20);
        x.day();
        c.due("14: the second passes too", x.told(1, 0), 1);
        c.due("14: none is left for the third", x.told(2, 3), 3);
        x.day();
        c.due("14: on the next day all are", x.told(2, 0), 1);
        x = new TributeFleet(3);
        x.squadron(0, 12, 0, 0);
        x.squadron(0, 9, 0, 0);
        x.squadron(0, 10, 0, 0);
        x.day();
        c.due("14: one too many", x.told(1, 3), 3);
        c.due("14: the lock ahead of one ahead", x.told(2, 3), 3);
    }

    private static void barredByOneAhead(Checks c) {
        TributeFleet x = new TributeFleet(3);
        x.lock(0, 12);
        for (int boats = 5; boats <= 15; boats += 10) {
            x.squadron(0, boats, 0, 0);
        }
        x.squadron(0, 4, 0, 0);
        x.squadron(0, 3, 0, 0);
        x.leave(3, true);
        x.day();
        c.due("14: the one ahead passes", x.told(0, 3), 0);
        c.due("14: too many boats", x.told(1, 3), 3);
        c.due("14: behind it", x.told(2, 3), 4);
        c.due("14: with leave", x.told(3, 3), 0);
        c.due("14: it overtakes", x.told(3, 0), 1);
        c.due("14: days by cause 4", x.told(2, 34), 1);
        x.leave(2, true);
        x.leave(2, false);
        x.day();
        c.due("14: leave taken back", x.told(2, 3), 4);
        x.leave(2, true);
        x.day();
        c.due("14: leave given", x.told(2, 0), 1);
        c.due("14: the other waits on", x.told(1, 33), 3);
        x.lock(0, 15);
        x.day();
        c.due("14: and passes at last", x.told(1, 0), 1);
    }

    private static void oneAheadIsInTheSameReach(Checks c) {
        TributeFleet x = new TributeFleet(4);
        x.squadron(0, 10, 0, 0);
        x.day();
        x.squadron(0, 10, 0, 0);
        x.lock(1, 5);
        x.day();
        c.due("14: it stays in reach 1", x.told(0, 3), 3);
        c.due("14: one ahead in another reach bars none", x.told(1, 0), 1);
        x.squadron(0, 4, 0, 0);
        x.day();
        c.due("14: nor those that come from below", x.told(2, 0), 1);
        c.due("14: the lock bars both", x.told(1, 3), 3);
        x.lock(2, 5);
        x.leave(2, true);
        x.day();
        c.due("14: overtakes two", x.told(2, 0), 2);
        c.due("14: days in 1", x.told(2, 11), 1);
        c.due("14: days of the first in 1", x.told(0, 11), 3);
    }

    private static void waterMoves(Checks c) {
        TributeFleet x = new TributeFleet(3);
        x.squadron(0, 10, 0, 0);
        x.squadron(0, 6, 0, 0);
        x.water(0, 995);
        x.day();
        c.due("14: out of the upper reach", x.reach(1, 0), 84);
        c.due("14: up to 1,000 in the lower", x.reach(0, 0), 1000);
        c.due("14: the last untouched", x.reach(2, 0), 100);
        x.day();
        c.due("14: out of the last", x.reach(2, 0), 84);
        c.due("14: into the one below it", x.reach(1, 0), 100);
        x = new TributeFleet(3);
        x.squadron(0, 10, 0, 0);
        x.squadron(0, 6, 0, 0);
        x.water(1, 35);
        x.day();
        c.due("14: the first took the water", x.told(1, 3), 2);
        c.due("14: what is left", x.reach(1, 0), 25);
    }

    private static void locksFromTheLastDown(Checks c) {
        TributeFleet x = new TributeFleet(3);
        x.squadron(0, 10, 0, 0);
        x.day();
        x.squadron(0, 10, 0, 0);
        x.water(1, 20);
        x.day();
        c.due("14: the upper lock gives the water", x.told(1, 0), 1);
        c.due("14: and it's used", x.reach(1, 0), 20);
    }

    private static void oneLockADay(Checks c) {
        TributeFleet x = new TributeFleet(12);
        x.squadron(0, 1, 0, 0);
        for (int day = 1; day <= 11; day++) {
            x.day();
            c.due("14: reach after " + day, x.told(0, 0), day);
            c.due("14: came by " + day, x.told(0, 1), day < 11 ? -1 : 10);
        }
        for (int i = 0; i < 12; i++) {
            c.due("14: days in " + i, x.told(0, 10 + i), i < 11 ? 1 : 0);
        }
    }

    /** Who of three may pass a lock of 6 boats: each alone. */
    private static TributeFleet three(String order) {
        TributeFleet x = new TributeFleet(3);
        x.squadron(2, 4, 0, 0);
        x.squadron(3, 6, 0, 0);
        x.squadron(1, 5, 0, 0);
        x.lock(0, 6);
        Texts.statute(x, order);
        return x;
    }

    private static void line(Checks c, String order, int first, int second, int third) {
        TributeFleet x = three(order);
        int[] passes = {first, second, third};
        for (int day = 0; day < 3; day++) {
            x.day();
            c.due("14: \"" + order + "\" on " + day, x.told(passes[day], 0) > 0, true);
            c.due("14: \"" + order + "\" boats in 0", x.count(1) - waiting(x), day + 1);
        }
    }

    private static int waiting(TributeFleet x) {
        int waiting = 0;
        for (int i = 0; i < x.count(1); i++) {
            waiting += x.told(i, 0) == 0 ? 1 : 0;
        }
        return waiting;
    }

    private static void orders(Checks c) {
        line(c, "", 0, 1, 2);
        line(c, "order told;", 0, 1, 2);
        line(c, "order county;", 2, 0, 1);
        line(c, "order boats;", 1, 2, 0);
        line(c, "order boats; order county;", 2, 0, 1);
    }

    private static void alikeOnes(Checks c) {
        String[] texts = {"order county;", "order boats;", "order told;"};
        for (String text : texts) {
            TributeFleet x = new TributeFleet(3);
            for (int i = 0; i < 5; i++) {
                x.squadron(4, 7, 0, 0);
            }
            x.lock(0, 7);
            Texts.statute(x, text);
            for (int i = 0; i < 5; i++) {
                c.due("14: alike, not yet, " + text + i, x.told(i, 0), 0);
                x.day();
                c.due("14: alike by numbers, " + text + i, x.told(i, 0), 1);
            }
        }
        TributeFleet x = new TributeFleet(3);
        int[] boats = {3, 5, 3, 5};
        for (int i = 0; i < 4; i++) {
            x.squadron(i % 2, boats[i], 0, 0);
        }
        x.lock(0, 10);
        Texts.statute(x, "order boats;");
        x.day();
        int[] reach = {0, 1, 0, 1};
        for (int i = 0; i < 4; i++) {
            c.due("14: the bigger pair first, " + i, x.told(i, 0), reach[i]);
        }
    }

    private static void orderOfTheDay(Checks c) {
        TributeFleet x = three("");
        x.day();
        Texts.statute(x, "order county;");
        x.day();
        c.due("14: the statute taken today", x.told(2, 0), 1);
        c.due("14: the other waits", x.told(1, 0), 0);
        Texts.statute(x, "order bags;");
        x.squadron(0, 6, 0, 0);
        x.day();
        c.due("14: a fault changes nothing", x.told(3, 0), 1);
        Texts.statute(x, "");
        x.squadron(0, 6, 0, 0);
        x.day();
        c.due("14: without an order as they were told", x.told(1, 0), 1);
        c.due("14: the latest of them waits", x.told(4, 3), 3);
    }

    private static void theOrderDecidesWhoIsAhead(Checks c) {
        TributeFleet x = new TributeFleet(3);
        x.squadron(1, 2, 0, 0);
        x.squadron(0, 9, 0, 0);
        x.squadron(0, 1, 0, 0);
        x.lock(0, 8);
        Texts.statute(x, "order county;");
        x.day();
        c.due("14: the first of its county is too big", x.told(1, 3), 3);
        c.due("14: behind it in its county", x.told(2, 3), 4);
        c.due("14: behind both", x.told(0, 3), 4);
        Texts.statute(x, "");
        x.day();
        c.due("14: now it's ahead", x.told(0, 3), 0);
        c.due("14: the last is still behind", x.told(2, 3), 4);
    }
}
