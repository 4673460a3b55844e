/** Promises 23 and 24: due, least. */
public final class LeastTest {
    private LeastTest() {
    }

    public static void main(String[] args) {
        Checks c = new Checks();
        due(c);
        notAsTold(c);
        daysAreCutUp(c);
        fromTodayOn(c);
        theFirstOfAlikeOrders(c);
        noneAtAll(c);
        againstAllOrders(c);
        c.end();
    }

    private static void due(Checks c) {
        TributeFleet x = new TributeFleet(3);
        c.due("23: no squadron", x.due(0, 5), false);
        x.squadron(0, 50, 0, 0);
        x.squadron(0, 50, 0, 0);
        x.lock(0, 1);
        c.due("23: due(0, 401)", x.due(0, 401), false);
        c.due("23: due(0, -1)", x.due(0, -1), false);
        c.due("23: due(2, 5)", x.due(2, 5), false);
        c.due("23: due(-1, 5)", x.due(-1, 5), false);
        c.due("23: 400 at first", x.least(3, 0, -1), 0);
        c.due("23: due(0, 0)", x.due(0, 0), true);
        c.due("24: 50 days late", x.least(1, 0, -1), 50);
        c.due("24: the other isn't", x.least(2, 0, -1), 0);
        c.due("23: due(0, 400)", x.due(0, 400), true);
        c.due("24: nor that one now", x.least(1, 0, -1), 0);
        c.due("23: due(0, 49)", x.due(0, 49), true);
        c.due("24: a day late", x.least(1, 0, -1), 1);
        c.due("23: due(0, 50)", x.due(0, 50), true);
        c.due("24: on its day", x.least(1, 0, -1), 0);
        for (int i = 0; i < 360; i++) {
            x.day();
        }
        c.due("23: 400 is a day", x.least(2, 0, -1), 10);
    }

    private static void notAsTold(Checks c) {
        TributeFleet x = new TributeFleet(4);
        for (int i = 0; i < 7; i++) {
            x.squadron(0, 1, 0, 0);
        }
        c.due("24: six", x.least(63, 0, -1), 0);
        c.due("24: six others", x.least(126, 2, -1), 0);
        c.due("24: seven", x.least(127, 0, -1), -1);
        c.due("24: one that isn't", x.least(128, 0, -1), -1);
        c.due("24: one more that isn't", x.least(129, 0, 0), -1);
        c.due("24: below 0", x.least(-1, 0, -1), -1);
        c.due("24: the highest bit", x.least(Integer.MIN_VALUE, 0, -1), -1);
        c.due("24: lock 3", x.least(3, 3, -1), -1);
        c.due("24: lock -1", x.least(3, -1, -1), -1);
        c.due("24: k 2 of two", x.least(3, 0, 2), -1);
        c.due("24: k 1 of two", x.least(3, 0, 1), 1);
        c.due("24: k -2", x.least(3, 0, -2), -1);
        c.due("24: k 5 of six", x.least(126, 0, 5), 6);
        c.due("24: k 6 of six", x.least(126, 0, 6), -1);
        for (int i = 7; i < 12; i++) {
            x.squadron(0, 1, 0, 0);
        }
        c.due("24: the last of twelve", x.least(1 << 11, 0, 0), 11);
        c.due("24: a thirteenth", x.least(1 << 12, 0, -1), -1);
    }

    private static void daysAreCutUp(Checks c) {
        TributeFleet x = new TributeFleet(4);
        x.squadron(0, 10, 0, 0);
        x.due(0, 0);
        int[] aDay = {1, 3, 4, 5, 9, 10, 11, 60};
        int[] takes = {10, 4, 3, 2, 2, 1, 1, 1};
        for (int i = 0; i < aDay.length; i++) {
            x.lock(1, aDay[i]);
            c.due("24: 10 boats by " + aDay[i], x.least(1, 1, -1), takes[i]);
        }
        x.lock(0, 2);
        c.due("24: at another lock", x.least(1, 0, -1), 5);
    }

    private static void fromTodayOn(Checks c) {
        TributeFleet x = new TributeFleet(3);
        x.squadron(0, 10, 0, 0);
        x.squadron(0, 20, 0, 0);
        x.lock(0, 10);
        x.due(0, 5);
        x.due(1, 5);
        int[] sums = {0, 0, 0, 1, 2, 4, 6};
        for (int day = 0; day < sums.length; day++) {
            c.due("24: on " + day, x.least(3, 0, -1), sums[day]);
            x.day();
        }
        c.due("24: those that came count too", x.count(5), 1);
    }

    private static void theFirstOfAlikeOrders(Checks c) {
        TributeFleet x = new TributeFleet(3);
        for (int i = 0; i < 6; i++) {
            x.squadron(0, 10, 0, 0);
        }
        x.lock(0, 10);
        for (int k = 0; k < 6; k++) {
            c.due("24: none is late, " + k, x.least(63, 0, k), k);
        }
        x.due(4, 1);
        int[] order = {4, 0, 1, 2, 3, 5};
        for (int k = 0; k < 6; k++) {
            c.due("24: one is in haste, " + k, x.least(63, 0, k), order[k]);
        }
        c.due("24: none is late", x.least(63, 0, -1), 0);
        x.due(5, 1);
        int[] both = {4, 5, 0, 1, 2, 3};
        for (int k = 0; k < 6; k++) {
            c.due("24: two are in haste, " + k, x.least(63, 0, k), both[k]);
        }
        c.due("24: one is late by a day", x.least(63, 0, -1), 1);
        for (int i = 0; i < 6; i++) {
            x.due(i, 0);
        }
        c.due("24: all are late", x.least(63, 0, -1), 21);
        for (int i = 0; i < 6; i++) {
            c.due("24: then one alone, " + i, x.least(1 << i, 0, -1), 1);
            c.due("24: then two, " + i, x.least(1 | 2 << i, 0, -1), i < 5 ? 3 : -1);
        }
    }

    private static void noneAtAll(Checks c) {
        TributeFleet x = new TributeFleet(3);
        c.due("24: of none", x.least(0, 0, -1), 0);
        c.due("24: of none the first", x.least(0, 0, 0), -1);
        x.squadron(0, 1, 0, 0);
        c.due("24: of none again", x.least(0, 1, -1), 0);
        c.due("24: at no lock", x.least(0, 2, -1), -1);
    }

    /** Each order by hand, the orders in the order of their numbers. */
    private static void againstAllOrders(Checks c) {
        int seed = 12345;
        for (int run = 0; run < 60; run++) {
            TributeFleet x = new TributeFleet(3);
            int size = 1 + run % 6;
            int[] boats = new int[size];
            int[] dueDays = new int[size];
            for (int i = 0; i < size; i++) {
                seed = seed * 1103515245 + 12345;
                boats[i] = 1 + (seed >>> 16) % 50;
                seed = seed * 1103515245 + 12345;
                dueDays[i] = (seed >>> 16) % (run % 3 == 0 ? 8 : 25);
                x.squadron(0, 50, 0, 0);
                x.squadron(0, boats[i], 0, 0);
                x.due(2 * i + 1, dueDays[i]);
            }
            x.lock(1, 7);
            int days = run % 4;
            for (int i = 0; i < days; i++) {
                x.day();
            }
            int[] best = new int[size + 1];
            best[size] = Integer.MAX_VALUE;
            seek(boats, dueDays, new int[size], 0, days, 0, best);
            int set = 0xaaa & (1 << 2 * size) - 1;
            c.due("24: sum of run " + run, x.least(set, 1, -1), best[size]);
            for (int k = 0; k < size; k++) {
                c.due("24: " + k + " of run " + run, x.least(set, 1, k), 2 * best[k] + 1);
            }
        }
    }

    private static void seek(int[] boats, int[] dueDays, int[] order, int placed, int day,
            int late, int[] best) {
        int size = boats.length;
        if (placed == size) {
            if (late < best[size]) {
                System.arraycopy(order, 0, best, 0, size);
                best[size] = late;
            }
            return;
        }
        for (int i = 0; i < size; i++) {
            if (!isAmong(order, placed, i)) {
                order[placed] = i;
                int end = day + (boats[i] + 6) / 7;
                seek(boats, dueDays, order, placed + 1, end,
                        late + Math.max(0, end - dueDays[i]), best);
            }
        }
    }

    private static boolean isAmong(int[] order, int placed, int one) {
        for (int i = 0; i < placed; i++) {
            if (order[i] == one) {
                return true;
            }
        }
        return false;
    }
}
