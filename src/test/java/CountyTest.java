/** Promises 19 to 22 and 25: allot, rate, commute, county, count. */
public final class CountyTest {
    private CountyTest() {
    }

    public static void main(String[] args) {
        Checks c = new Checks();
        countiesAtFirst(c);
        allot(c);
        rate(c);
        commute(c);
        cameAndOwed(c);
        count(c);
        c.end();
    }

    private static void countiesAtFirst(Checks c) {
        TributeFleet x = new TributeFleet(3);
        for (int county = 0; county < 6; county++) {
            for (int what = 0; what < 5; what++) {
                c.due("22: county(" + county + ", " + what + ")", x.county(county, what), 0);
            }
            c.due("22: no 5 of " + county, x.county(county, 5), -100000);
            c.due("22: no -1 of " + county, x.county(county, -1), -100000);
        }
        c.due("22: county(6, 0)", x.county(6, 0), -100000);
        c.due("22: county(-1, 4)", x.county(-1, 4), -100000);
    }

    private static void allot(Checks c) {
        TributeFleet x = new TributeFleet(3);
        c.due("19: allot(0, 10000)", x.allot(0, 10000), true);
        c.due("19: allot(5, 7)", x.allot(5, 7), true);
        c.due("19: allot(0, 10001)", x.allot(0, 10001), false);
        c.due("19: allot(0, -1)", x.allot(0, -1), false);
        c.due("19: allot(6, 7)", x.allot(6, 7), false);
        c.due("19: allot(-1, 7)", x.allot(-1, 7), false);
        c.due("19: of 0", x.county(0, 0), 10000);
        c.due("19: of 5", x.county(5, 0), 7);
        c.due("19: of 1", x.county(1, 0), 0);
        c.due("22: owed by 0", x.county(0, 4), 10000);
        c.due("19: allot(0, 0)", x.allot(0, 0), true);
        c.due("19: the new one of 0", x.county(0, 0), 0);
    }

    private static void rate(Checks c) {
        TributeFleet x = new TributeFleet(3);
        x.allot(0, 100);
        c.due("20: 0 at first", x.commute(0, 1), 0);
        c.due("20: rate(100)", x.rate(100), true);
        c.due("20: rate(101)", x.rate(101), false);
        c.due("20: rate(-1)", x.rate(-1), false);
        c.due("20: 100 holds", x.commute(0, 2), 200);
        x.day();
        c.due("20: over a day too", x.commute(0, 2), 200);
        c.due("20: rate(0)", x.rate(0), true);
        c.due("20: 0 holds", x.commute(0, 5), 0);
        c.due("20: what was paid stays", x.county(0, 2), 400);
        c.due("20: commuted in all", x.county(0, 1), 10);
    }

    private static void commute(Checks c) {
        TributeFleet x = new TributeFleet(3);
        x.rate(3);
        c.due("21: no allotment", x.commute(1, 1), -1);
        x.allot(1, 100);
        c.due("21: commute(1, 0)", x.commute(1, 0), -1);
        c.due("21: commute(1, -1)", x.commute(1, -1), -1);
        c.due("21: commute(1, 101)", x.commute(1, 101), -1);
        c.due("21: commute(6, 1)", x.commute(6, 1), -1);
        c.due("21: commute(-1, 1)", x.commute(-1, 1), -1);
        c.due("21: nothing done", x.county(1, 1), 0);
        c.due("21: commute(1, 60)", x.commute(1, 60), 180);
        c.due("21: commute(1, 41)", x.commute(1, 41), -1);
        x.rate(5);
        c.due("21: at the new rate", x.commute(1, 40), 200);
        c.due("21: none is left", x.commute(1, 1), -1);
        c.due("22: commuted", x.county(1, 1), 100);
        c.due("22: paid", x.county(1, 2), 380);
        c.due("22: owed", x.county(1, 4), 0);
        c.due("22: of another", x.county(2, 2), 0);
    }

    private static void cameAndOwed(Checks c) {
        TributeFleet x = new TributeFleet(3);
        x.squadron(2, 5, 300, 50);
        x.squadron(2, 5, 40, 0);
        x.squadron(3, 5, 1000, 0);
        x.squadron(2, 21, 7, 0);
        x.lose(0, 30);
        x.allot(2, 500);
        x.rate(2);
        x.commute(2, 100);
        c.due("22: none came", x.county(2, 3), 0);
        c.due("22: owed then", x.county(2, 4), 400);
        x.day();
        c.due("22: none on the way counts", x.county(2, 3), 0);
        x.lose(1, 5);
        x.day();
        c.due("22: 270 and 35", x.county(2, 3), 305);
        c.due("22: owed", x.county(2, 4), 95);
        c.due("22: of 3", x.county(3, 3), 1000);
        c.due("22: owed below 0", x.county(3, 4), -1000);
        c.due("22: of 0", x.county(0, 3), 0);
    }

    private static void count(Checks c) {
        TributeFleet x = new TributeFleet(7);
        x.squadron(0, 1, 0, 0);
        x.squadron(0, 30, 0, 0);
        x.squadron(0, 1, 0, 0);
        x.leave(2, true);
        x.lake(0, 0);
        Texts.statute(x, "");
        Texts.statute(x, "fine 1;");
        Texts.statute(x, "loss 1;");
        Texts.statute(x, "loss");
        Texts.feed(x, "fine 2; fine 3; fine 4; fine 5; fine 6;");
        int[] want = {0, 3, 1, 3, 40, 0, 7, -1};
        for (int what = 0; what < want.length; what++) {
            c.due("25: count(" + what + ")", x.count(what), want[what]);
        }
        c.due("25: count(-1)", x.count(-1), -1);
        for (int day = 0; day < 5; day++) {
            x.day();
        }
        c.due("25: not yet there", x.count(5), 0);
        x.day();
        c.due("25: two came", x.count(5), 2);
        x.day();
        c.due("25: two still", x.count(5), 2);
        c.due("25: today", x.count(0), 7);
    }
}
