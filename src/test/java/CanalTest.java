/** Promises 1 to 6, 17 and 18: a new object, water, lock, lake, give, ice, reach, store. */
public final class CanalTest {
    private CanalTest() {
    }

    public static void main(String[] args) {
        Checks c = new Checks();
        reachesAreHeld(c);
        newObject(c);
        water(c);
        lock(c);
        lake(c);
        give(c);
        ice(c);
        noIceUntold(c);
        iceOfTheLatestTelling(c);
        reach(c);
        c.end();
    }

    private static void reachesAreHeld(Checks c) {
        int[] told = {Integer.MIN_VALUE, -1, 0, 2, 3, 4, 11, 12, 13, Integer.MAX_VALUE};
        int[] held = {3, 3, 3, 3, 3, 4, 11, 12, 12, 12};
        for (int i = 0; i < told.length; i++) {
            TributeFleet x = new TributeFleet(told[i]);
            c.due("1: count(6) of " + told[i], x.count(6), held[i]);
            c.due("1: last reach of " + told[i], x.reach(held[i] - 1, 0), 100);
            c.due("1: no more reaches of " + told[i], x.reach(held[i], 0), -1);
        }
    }

    private static void newObject(Checks c) {
        TributeFleet x = new TributeFleet(5);
        for (int i = 0; i < 5; i++) {
            c.due("1: water of " + i, x.reach(i, 0), 100);
            c.due("1: boats in " + i, x.reach(i, 1), 0);
            c.due("1: ice in " + i, x.reach(i, 2), 0);
            c.due("1: lock above " + i, x.reach(i, 3), i < 4 ? 20 : -1);
            c.due("1: count " + i, x.count(i), 0);
        }
        c.due("1: none came", x.count(5), 0);
        c.due("1: no lake", x.store(0), -1);
        c.due("1: no squadron", x.told(0, 0), -1);
        c.due("1: no fault", x.fault(), -1);
    }

    private static void water(Checks c) {
        TributeFleet x = new TributeFleet(4);
        c.due("2: water(0, 0)", x.water(0, 0), true);
        c.due("2: of 0", x.reach(0, 0), 0);
        c.due("2: water(3, 1000)", x.water(3, 1000), true);
        c.due("2: of 3", x.reach(3, 0), 1000);
        c.due("2: water(1, 250)", x.water(1, 250), true);
        c.due("2: of 1", x.reach(1, 0), 250);
        c.due("2: water(4, 5)", x.water(4, 5), false);
        c.due("2: water(-1, 5)", x.water(-1, 5), false);
        c.due("2: water(1, 1001)", x.water(1, 1001), false);
        c.due("2: water(1, -1)", x.water(1, -1), false);
        c.due("2: still of 1", x.reach(1, 0), 250);
        c.due("2: of 2 untouched", x.reach(2, 0), 100);
    }

    private static void lock(Checks c) {
        TributeFleet x = new TributeFleet(4);
        c.due("3: lock(0, 1)", x.lock(0, 1), true);
        c.due("3: of 0", x.reach(0, 3), 1);
        c.due("3: lock(2, 60)", x.lock(2, 60), true);
        c.due("3: of 2", x.reach(2, 3), 60);
        c.due("3: lock(3, 5)", x.lock(3, 5), false);
        c.due("3: lock(-1, 5)", x.lock(-1, 5), false);
        c.due("3: lock(0, 0)", x.lock(0, 0), false);
        c.due("3: lock(0, 61)", x.lock(0, 61), false);
        c.due("3: still of 0", x.reach(0, 3), 1);
        c.due("3: of 1 untouched", x.reach(1, 3), 20);
        c.due("3: none above the last", x.reach(3, 3), -1);
    }

    private static void lake(Checks c) {
        TributeFleet x = new TributeFleet(4);
        c.due("4: lake(4, 10)", x.lake(4, 10), -1);
        c.due("4: lake(-1, 10)", x.lake(-1, 10), -1);
        c.due("4: lake(0, -1)", x.lake(0, -1), -1);
        c.due("4: lake(0, 5001)", x.lake(0, 5001), -1);
        c.due("4: none is there", x.count(2), 0);
        c.due("4: lake(0, 0)", x.lake(0, 0), 0);
        c.due("4: lake(3, 5000)", x.lake(3, 5000), 1);
        c.due("4: lake(3, 7)", x.lake(3, 7), 2);
        c.due("4: lake(1, 8)", x.lake(1, 8), 3);
        c.due("4: a fifth", x.lake(2, 9), -1);
        c.due("4: four are there", x.count(2), 4);
        int[] stores = {0, 5000, 7, 8};
        for (int i = 0; i < 4; i++) {
            c.due("18: store " + i, x.store(i), stores[i]);
        }
        c.due("18: store(4)", x.store(4), -1);
        c.due("18: store(-1)", x.store(-1), -1);
        x.day();
        c.due("4: a lake gives nothing at first", x.store(1), 5000);
        c.due("4: its reach has no more", x.reach(3, 0), 100);
    }

    private static void give(Checks c) {
        TributeFleet x = new TributeFleet(3);
        c.due("5: no lake yet", x.give(0, 10), false);
        x.lake(1, 5000);
        x.lake(2, 500);
        c.due("5: give(0, 100)", x.give(0, 100), true);
        c.due("5: give(1, 1)", x.give(1, 1), true);
        c.due("5: give(0, 101)", x.give(0, 101), false);
        c.due("5: give(0, -1)", x.give(0, -1), false);
        c.due("5: give(2, 5)", x.give(2, 5), false);
        c.due("5: give(-1, 5)", x.give(-1, 5), false);
        x.day();
        c.due("5: store(0)", x.store(0), 4900);
        c.due("5: reach(1, 0)", x.reach(1, 0), 200);
        c.due("5: store(1)", x.store(1), 499);
        c.due("5: reach(2, 0)", x.reach(2, 0), 101);
        c.due("5: give(0, 0)", x.give(0, 0), true);
        x.day();
        c.due("5: gives nothing again", x.store(0), 4900);
        c.due("18: store(1) a day later", x.store(1), 498);
    }

    private static void ice(Checks c) {
        TributeFleet x = new TributeFleet(4);
        c.due("6: ice(401, 0)", x.ice(401, 0), false);
        c.due("6: ice(-1, 0)", x.ice(-1, 0), false);
        c.due("6: ice(0, 4)", x.ice(0, 4), false);
        c.due("6: ice(0, -1)", x.ice(0, -1), false);
        c.due("6: no ice by wrong tellings", x.reach(3, 2), 0);
        c.due("6: ice(2, 1)", x.ice(2, 1), true);
        x.day();
        c.due("6: not the day before", x.reach(1, 2), 0);
        x.day();
        c.due("6: on the day", x.reach(1, 2), 1);
        c.due("6: in the reaches from it on", x.reach(3, 2), 1);
        c.due("6: not below", x.reach(0, 2), 0);
        x.day();
        c.due("6: on later days", x.reach(2, 2), 1);
        c.due("6: ice(400, 0)", x.ice(400, 0), true);
        c.due("6: now later", x.reach(2, 2), 0);
        for (int day = 3; day < 400; day++) {
            x.day();
        }
        c.due("6: on the last day", x.reach(0, 2), 1);
    }

    private static void noIceUntold(Checks c) {
        TributeFleet x = new TributeFleet(3);
        for (int day = 0; day < 400; day++) {
            x.day();
        }
        for (int i = 0; i < 3; i++) {
            c.due("6: none was told, " + i, x.reach(i, 2), 0);
        }
    }

    private static void iceOfTheLatestTelling(Checks c) {
        TributeFleet x = new TributeFleet(5);
        x.ice(0, 1);
        c.due("6: from 1 on", x.reach(1, 2), 1);
        x.ice(0, 3);
        c.due("6: no more in 1", x.reach(1, 2), 0);
        c.due("6: but in 3", x.reach(3, 2), 1);
        x.ice(5, 0);
        c.due("6: no more in 3", x.reach(3, 2), 0);
        x.ice(0, 4);
        c.due("6: in the last", x.reach(4, 2), 1);
    }

    private static void reach(Checks c) {
        TributeFleet x = new TributeFleet(3);
        x.squadron(0, 10, 0, 0);
        x.squadron(0, 5, 0, 0);
        c.due("17: boats in 0", x.reach(0, 1), 15);
        x.lock(0, 12);
        x.day();
        c.due("17: boats left in 0", x.reach(0, 1), 5);
        c.due("17: boats in 1", x.reach(1, 1), 10);
        x.day();
        c.due("17: boats in the last", x.reach(2, 1), 10);
        x.day();
        c.due("17: those that came stay", x.reach(2, 1), 15);
        c.due("17: reach(0, 4)", x.reach(0, 4), -1);
        c.due("17: reach(0, -1)", x.reach(0, -1), -1);
        c.due("17: reach(3, 0)", x.reach(3, 0), -1);
        c.due("17: reach(3, 2)", x.reach(3, 2), -1);
        c.due("17: reach(-1, 1)", x.reach(-1, 1), -1);
    }
}
