/** Promises 23 and 24 and Terms 3: due, least. */
public final class LeastTest {
    private LeastTest() {
    }

    public static void main(String[] args) {
        Checks c = new Checks();
        c.sentence("23: A due DAY of a SQUADRON (0 to 400).", LeastTest::firstAndLastDueDay);
        c.sentence("23: A due DAY (400 at first).", LeastTest::dueAtFirst);
        c.sentence("23: true; false: not as told.", LeastTest::dueNotAsTold);
        c.sentence("24: of a set (bits, up to 6): more than six.", LeastTest::moreThanSix);
        c.sentence("24: of a set (bits, up to 6): none.", LeastTest::ofNone);
        c.sentence("24: the SQUADRONS of a set: one that isn't.", LeastTest::oneThatIsNot);
        c.sentence("24: at a LOCK. NONE: not as told.", LeastTest::firstAndLastLock);
        c.sentence("24: the sum (k NONE), the k-th SQUADRON. NONE: no such k.", LeastTest::firstAndLastPlace);
        c.sentence("Terms 3: BOATS by the LOCK's BOATS a DAY, cut up.", LeastTest::daysAreCutUp);
        c.sentence("Terms 3: they pass one behind the other.", LeastTest::oneBehindTheOther);
        c.sentence("Terms 3: DAYS from TODAY on.", LeastTest::fromTodayOn);
        c.sentence("Terms 3: LATE is by how many DAYS its end is above its due DAY.",
                LeastTest::lateAboveDueDay);
        c.sentence("Terms 3: and the first such order (by numbers).", LeastTest::theFirstOfAlikeOrders);
        c.sentence("Terms 3: the least sum of all orders.", LeastTest::againstAllOrders);
        c.end();
    }

    private static void firstAndLastDueDay(Checks c) {
        TributeFleet x = new TributeFleet(3);
        x.squadron(0, 50, 0, 0);
        x.lock(0, 1);
        c.bounds("due(0, ?)", 0, 400, day -> x.due(0, day));
        c.due("by the last", x.least(1, 0, -1), 0);
        x.due(0, 0);
        c.due("by the first", x.least(1, 0, -1), 50);
        Days.pass(x, 400);
        c.due("by the first on the last", x.least(1, 0, -1), 450);
        x.due(0, 400);
        c.due("by the last on the last", x.least(1, 0, -1), 50);
    }

    private static void dueAtFirst(Checks c) {
        TributeFleet x = new TributeFleet(3);
        x.squadron(0, 50, 0, 0);
        x.lock(0, 1);
        Days.pass(x, 350);
        c.due("ends on 400", x.least(1, 0, -1), 0);
        x.day();
        c.due("ends on 401", x.least(1, 0, -1), 1);
    }

    private static void dueNotAsTold(Checks c) {
        TributeFleet x = new TributeFleet(3);
        c.due("of none", x.due(0, 5), false);
        x.squadron(0, 50, 0, 0);
        x.squadron(0, 50, 0, 0);
        c.bounds("due(?, 49)", 0, 1, squadron -> x.due(squadron, 49));
        c.due("again", x.due(0, 49), true);
        c.due("due(0, 401)", x.due(0, 401), false);
        c.due("due(0, -1)", x.due(0, -1), false);
        c.due("due(2, 5)", x.due(2, 5), false);
        x.lock(0, 1);
        c.due("as told", x.least(1, 0, -1), 1);
    }

    private static TributeFleet many(int squadrons) {
        TributeFleet x = new TributeFleet(4);
        for (int i = 0; i < squadrons; i++) {
            x.squadron(0, 1, 0, 0);
        }
        return x;
    }

    private static void moreThanSix(Checks c) {
        TributeFleet x = many(12);
        c.due("six", x.least(0b111111, 0, -1), 0);
        c.due("six others", x.least(0b111111000000, 2, -1), 0);
        c.due("the sixth of them", x.least(0b111111000000, 2, 5), 11);
        c.due("seven", x.least(0b1111111, 0, -1), -1);
        c.due("the first of seven", x.least(0b1111111, 0, 0), -1);
        c.due("seven others", x.least(0b110101010111, 0, -1), -1);
        c.due("twelve", x.least(0b111111111111, 0, -1), -1);
    }

    private static void ofNone(Checks c) {
        TributeFleet x = new TributeFleet(3);
        c.due("the sum", x.least(0, 0, -1), 0);
        c.due("the first", x.least(0, 0, 0), -1);
        c.due("at no lock", x.least(0, 2, -1), -1);
        x.squadron(0, 50, 0, 0);
        x.due(0, 0);
        c.due("the one there", x.least(1, 0, -1), 3);
        c.due("the sum with one there", x.least(0, 1, -1), 0);
        c.due("the first with one there", x.least(0, 1, 0), -1);
    }

    private static void oneThatIsNot(Checks c) {
        for (int squadrons = 0; squadrons <= 12; squadrons += 4) {
            TributeFleet x = many(squadrons);
            for (int bit = 0; bit < 32; bit++) {
                int want = bit < squadrons ? bit : -1;
                c.due("bit " + bit + " of " + squadrons, x.least(1 << bit, 0, 0), want);
            }
            c.due("all bits of " + squadrons, x.least(-1, 0, -1), -1);
            c.due("one more of " + squadrons, x.least(1 << squadrons | 1, 0, -1), -1);
            c.due("the highest too", x.least(Integer.MIN_VALUE | 1, 0, -1), -1);
        }
    }

    private static void firstAndLastLock(Checks c) {
        for (int n = 3; n <= 12; n += 9) {
            TributeFleet x = new TributeFleet(n);
            x.squadron(0, 1, 0, 0);
            c.bounds("least(1, ?, -1) of " + n, 0, n - 2, lock -> x.least(1, lock, -1) == 0);
            c.bounds("least(1, ?, 0) of " + n, 0, n - 2, lock -> x.least(1, lock, 0) == 0);
        }
    }

    private static void firstAndLastPlace(Checks c) {
        TributeFleet x = many(8);
        c.bounds("least(.., 0, ?) of three", -1, 2, k -> x.least(0b10000101, 0, k) != -1);
        c.bounds("least(.., 0, ?) of six", -1, 5, k -> x.least(0b11101110, 0, k) != -1);
        int[] want = {0, 0, 2, 7, -1};
        for (int k = -1; k < 4; k++) {
            c.due("least(.., 0, " + k + ")", x.least(0b10000101, 0, k), want[k + 1]);
        }
    }

    private static void daysAreCutUp(Checks c) {
        TributeFleet x = new TributeFleet(4);
        x.squadron(0, 10, 0, 0);
        x.due(0, 0);
        int[] aDay = {1, 3, 4, 5, 9, 10, 11, 60};
        int[] takes = {10, 4, 3, 2, 2, 1, 1, 1};
        for (int i = 0; i < aDay.length; i++) {
            x.lock(1, aDay[i]);
            c.due("10 boats by " + aDay[i], x.least(1, 1, -1), takes[i]);
        }
        x.lock(0, 2);
        c.due("at another lock", x.least(1, 0, -1), 5);
        x.squadron(0, 1, 0, 0);
        x.squadron(0, 1, 0, 0);
        x.due(1, 0);
        x.due(2, 0);
        c.due("each cut up by itself", x.least(6, 0, -1), 3);
    }

    private static void oneBehindTheOther(Checks c) {
        TributeFleet x = new TributeFleet(3);
        for (int i = 0; i < 6; i++) {
            x.squadron(0, 50, 0, 0);
            x.due(i, 0);
        }
        x.lock(0, 1);
        c.due("50, 100, .. 300", x.least(63, 0, -1), 1050);
        c.due("50, 100", x.least(0b100100, 0, -1), 150);
        c.due("50", x.least(0b100000, 0, -1), 50);
    }

    private static void fromTodayOn(Checks c) {
        TributeFleet x = new TributeFleet(3);
        x.squadron(0, 10, 0, 0);
        x.squadron(0, 20, 0, 0);
        x.lock(0, 10);
        x.due(0, 5);
        x.due(1, 5);
        int[] sums = {0, 0, 0, 1, 2, 4, 6};
        for (int day = 0; day < sums.length; day++) {
            c.due("on " + day, x.least(3, 0, -1), sums[day]);
            x.day();
        }
        c.due("one of them came", x.count(5), 1);
    }

    private static void lateAboveDueDay(Checks c) {
        TributeFleet x = new TributeFleet(3);
        x.squadron(0, 50, 0, 0);
        x.squadron(0, 50, 0, 0);
        x.lock(0, 1);
        int[] dueDays = {0, 1, 48, 49, 50, 51, 400};
        int[] late = {50, 49, 2, 1, 0, 0, 0};
        for (int i = 0; i < dueDays.length; i++) {
            x.due(0, dueDays[i]);
            c.due("due on " + dueDays[i], x.least(1, 0, -1), late[i]);
        }
        x.due(1, 0);
        c.due("one early makes none less late", x.least(3, 0, -1), 50);
    }

    private static void theFirstOfAlikeOrders(Checks c) {
        TributeFleet x = new TributeFleet(3);
        for (int i = 0; i < 6; i++) {
            x.squadron(0, 10, 0, 0);
        }
        x.lock(0, 10);
        order(c, "none is late", x, 0, 0, 1, 2, 3, 4, 5);
        x.due(4, 1);
        order(c, "one is in haste", x, 0, 4, 0, 1, 2, 3, 5);
        x.due(5, 1);
        order(c, "two are in haste", x, 1, 4, 5, 0, 1, 2, 3);
        x.due(0, 2);
        order(c, "and one more a little", x, 2, 4, 0, 5, 1, 2, 3);
        for (int i = 0; i < 6; i++) {
            x.due(i, 0);
        }
        order(c, "all are late", x, 21, 0, 1, 2, 3, 4, 5);
    }

    private static void order(Checks c, String when, TributeFleet x, int sum, int... order) {
        c.due("sum, " + when, x.least(63, 0, -1), sum);
        for (int k = 0; k < order.length; k++) {
            c.due(k + ", " + when, x.least(63, 0, k), order[k]);
        }
    }

    /** Each order by hand, the orders in the order of their numbers. */
    private static void againstAllOrders(Checks c) {
        int seed = 12345;
        for (int run = 0; run < 60; run++) {
            TributeFleet x = new TributeFleet(3);
            int size = 1 + run % 6;
            int[] boats = new int[size];
            int[] dueDays = new int[size];
            for (int i = 0; i < size; i++) {
                seed = seed * 1103515245 + 12345;
                boats[i] = 1 + (seed >>> 16) % 50;
                seed = seed * 1103515245 + 12345;
                dueDays[i] = (seed >>> 16) % (run % 3 == 0 ? 8 : 25);
                x.squadron(0, 50, 0, 0);
                x.squadron(0, boats[i], 0, 0);
                x.due(2 * i + 1, dueDays[i]);
            }
            x.lock(1, 7);
            int days = run % 4;
            Days.pass(x, days);
            int[] best = new int[size + 1];
            best[size] = Integer.MAX_VALUE;
            seek(boats, dueDays, new int[size], 0, days, 0, best);
            int set = 0xaaa & (1 << 2 * size) - 1;
            c.due("sum of run " + run, x.least(set, 1, -1), best[size]);
            for (int k = 0; k < size; k++) {
                c.due(k + " of run " + run, x.least(set, 1, k), 2 * best[k] + 1);
            }
        }
    }

    private static void seek(int[] boats, int[] dueDays, int[] order, int placed, int day,
            int late, int[] best) {
        int size = boats.length;
        if (placed == size) {
            if (late < best[size]) {
                System.arraycopy(order, 0, best, 0, size);
                best[size] = late;
            }
            return;
        }
        for (int i = 0; i < size; i++) {
            if (!isAmong(order, placed, i)) {
                order[placed] = i;
                int end = day + (boats[i] + 6) / 7;
                seek(boats, dueDays, order, placed + 1, end,
                        late + Math.max(0, end - dueDays[i]), best);
            }
        }
    }

    private static boolean isAmong(int[] order, int placed, int one) {
        for (int i = 0; i < placed; i++) {
            if (order[i] == one) {
                return true;
            }
        }
        return false;
    }
}
