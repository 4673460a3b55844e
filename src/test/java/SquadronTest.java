/** Promises 7, 12, 13, 15: squadron, leave, lose, told. */
public final class SquadronTest {
    private SquadronTest() {
    }

    public static void main(String[] args) {
        Checks c = new Checks();
        squadron(c);
        twelveSquadrons(c);
        leave(c);
        lose(c);
        loseEndsWithComing(c);
        toldOfANewOne(c);
        toldOnTheWay(c);
        toldOfReachesAndCauses(c);
        c.end();
    }

    private static void squadron(Checks c) {
        TributeFleet x = new TributeFleet(3);
        c.due("7: county 6", x.squadron(6, 1, 0, 0), -1);
        c.due("7: county -1", x.squadron(-1, 1, 0, 0), -1);
        c.due("7: no boats", x.squadron(0, 0, 0, 0), -1);
        c.due("7: 51 boats", x.squadron(0, 51, 0, 0), -1);
        c.due("7: bags -1", x.squadron(0, 1, -1, 0), -1);
        c.due("7: bags 5001", x.squadron(0, 1, 5001, 0), -1);
        c.due("7: goods -1", x.squadron(0, 1, 0, -1), -1);
        c.due("7: goods 2001", x.squadron(0, 1, 0, 2001), -1);
        c.due("7: none is there", x.count(1), 0);
        c.due("7: the least of all", x.squadron(0, 1, 0, 0), 0);
        c.due("7: the most of all", x.squadron(5, 50, 5000, 2000), 1);
        c.due("7: both are there", x.count(1), 2);
        c.due("7: their boats", x.reach(0, 1), 51);
        c.due("7: bags of 0", x.told(0, 2), 0);
        c.due("7: bags of 1", x.told(1, 2), 5000);
    }

    private static void twelveSquadrons(Checks c) {
        TributeFleet x = new TributeFleet(3);
        for (int i = 0; i < 12; i++) {
            c.due("7: squadron " + i, x.squadron(i % 6, 1 + i, 10 * i, 0), i);
        }
        c.due("7: a thirteenth", x.squadron(0, 1, 0, 0), -1);
        c.due("7: twelve", x.count(1), 12);
        c.due("7: boats of the twelve", x.reach(0, 1), 78);
        c.due("7: bags of 11", x.told(11, 2), 110);
    }

    private static void leave(Checks c) {
        TributeFleet x = new TributeFleet(3);
        c.due("12: no squadron", x.leave(0, true), false);
        x.squadron(0, 1, 0, 0);
        x.squadron(0, 1, 0, 0);
        c.due("12: none at first", x.told(0, 5), 0);
        c.due("12: it's so", x.leave(0, false), false);
        c.due("12: given", x.leave(0, true), true);
        c.due("12: told", x.told(0, 5), 1);
        c.due("12: it's so again", x.leave(0, true), false);
        c.due("12: still", x.told(0, 5), 1);
        c.due("12: the other has none", x.told(1, 5), 0);
        x.day();
        c.due("12: kept over a day", x.told(0, 5), 1);
        c.due("12: taken back", x.leave(0, false), true);
        c.due("12: told again", x.told(0, 5), 0);
        c.due("12: leave(2, true)", x.leave(2, true), false);
        c.due("12: leave(-1, true)", x.leave(-1, true), false);
    }

    private static void lose(Checks c) {
        TributeFleet x = new TributeFleet(3);
        c.due("13: no squadron", x.lose(0, 1), -1);
        x.squadron(0, 1, 100, 0);
        x.squadron(0, 1, 0, 0);
        c.due("13: lose(0, 0)", x.lose(0, 0), -1);
        c.due("13: lose(0, -1)", x.lose(0, -1), -1);
        c.due("13: lose(0, 101)", x.lose(0, 101), -1);
        c.due("13: nothing done", x.told(0, 2), 100);
        c.due("13: lose(0, 1)", x.lose(0, 1), 99);
        c.due("13: lose(0, 100)", x.lose(0, 100), -1);
        c.due("13: lose(0, 98)", x.lose(0, 98), 1);
        c.due("13: told", x.told(0, 2), 1);
        c.due("13: the last", x.lose(0, 1), 0);
        c.due("13: none are left", x.lose(0, 1), -1);
        c.due("13: one without bags", x.lose(1, 1), -1);
        c.due("13: lose(2, 1)", x.lose(2, 1), -1);
        c.due("13: lose(-1, 1)", x.lose(-1, 1), -1);
    }

    private static void loseEndsWithComing(Checks c) {
        TributeFleet x = new TributeFleet(3);
        x.squadron(0, 5, 100, 0);
        x.day();
        c.due("13: on the way", x.lose(0, 10), 90);
        x.day();
        c.due("13: it has come", x.told(0, 1), 1);
        c.due("13: no more then", x.lose(0, 1), -1);
        c.due("13: left as it came", x.told(0, 2), 90);
    }

    private static void toldOfANewOne(Checks c) {
        TributeFleet x = new TributeFleet(4);
        x.day();
        x.squadron(2, 7, 33, 0);
        int[] want = {0, -1, 33, 0, 0, 0, -1, -1, -1, -1, 0, 0, 0, 0, -1};
        for (int what = 0; what < want.length; what++) {
            c.due("15: told(0, " + what + ")", x.told(0, what), want[what]);
        }
        c.due("15: told(0, -1)", x.told(0, -1), -1);
        c.due("15: told(0, 30)", x.told(0, 30), -1);
        c.due("15: told(0, 31)", x.told(0, 31), 0);
        c.due("15: told(0, 34)", x.told(0, 34), 0);
        c.due("15: told(0, 35)", x.told(0, 35), -1);
        c.due("15: told(1, 0)", x.told(1, 0), -1);
        c.due("15: told(-1, 0)", x.told(-1, 0), -1);
        TributeFleet longest = new TributeFleet(12);
        longest.squadron(0, 1, 0, 0);
        c.due("15: told(0, 21) of twelve reaches", longest.told(0, 21), 0);
        c.due("15: told(0, 22) of twelve reaches", longest.told(0, 22), -1);
    }

    private static void toldOnTheWay(Checks c) {
        TributeFleet x = new TributeFleet(3);
        x.squadron(0, 10, 50, 0);
        x.lock(0, 9);
        x.day();
        x.day();
        c.due("15: barred", x.told(0, 3), 3);
        c.due("15: days so far", x.told(0, 4), 2);
        x.lock(0, 10);
        x.day();
        c.due("15: it passed", x.told(0, 3), 0);
        c.due("15: reach", x.told(0, 0), 1);
        c.due("15: no days there yet", x.told(0, 4), 0);
        c.due("15: not come", x.told(0, 1), -1);
        x.ice(0, 2);
        x.day();
        c.due("15: ice", x.told(0, 3), 1);
        x.squadron(0, 10, 50, 0);
        c.due("15: told since the latest day", x.told(1, 3), 0);
        x.ice(400, 2);
        x.day();
        c.due("15: at the capital", x.told(0, 0), 2);
        c.due("15: came on", x.told(0, 1), 4);
        x.day();
        c.due("15: the day stays", x.told(0, 1), 4);
        c.due("15: had come", x.told(0, 3), 0);
        c.due("15: no days at the capital", x.told(0, 4), 0);
    }

    private static void toldOfReachesAndCauses(Checks c) {
        TributeFleet x = new TributeFleet(3);
        x.squadron(0, 10, 0, 0);
        x.squadron(0, 3, 0, 0);
        x.lock(0, 9);
        x.day();
        x.water(1, 0);
        x.day();
        x.day();
        x.ice(0, 0);
        x.day();
        x.day();
        x.day();
        x.ice(400, 0);
        x.water(1, 100);
        x.lock(0, 20);
        x.day();
        x.day();
        x.day();
        int[] days = {7, 1, 0};
        for (int i = 0; i < 3; i++) {
            c.due("15: days in " + i, x.told(0, 10 + i), days[i]);
            c.due("15: days of the other in " + i, x.told(1, 10 + i), days[i]);
        }
        int[] first = {3, 2, 1, 0};
        int[] other = {3, 2, 0, 1};
        for (int i = 0; i < 4; i++) {
            c.due("15: of cause " + (i + 1), x.told(0, 31 + i), first[i]);
            c.due("15: the other's of cause " + (i + 1), x.told(1, 31 + i), other[i]);
        }
    }
}
