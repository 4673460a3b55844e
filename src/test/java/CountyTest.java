/** Promises 19 to 22 and 25: allot, rate, commute, county, count. */
public final class CountyTest {
    private CountyTest() {
    }

    public static void main(String[] args) {
        Checks c = new Checks();
        c.sentence("Terms 3: an ALLOTMENT (0 to 10,000 BAGS).", CountyTest::leastAndMostAllotment);
        c.sentence("19: A COUNTY's ALLOTMENT: true; false: not as told.", CountyTest::allot);
        c.sentence("Terms 3: the RATE of TODAY (0 to 100 coins a BAG).", CountyTest::leastAndMostRate);
        c.sentence("Terms 3: the RATE (0 at first).", CountyTest::rateAtFirst);
        c.sentence("20: RATE from now on.", CountyTest::rateFromNowOn);
        c.sentence("20: true; false: not as told.", CountyTest::rateNotAsTold);
        c.sentence("21: BAGS of a COUNTY are COMMUTED (1 on): coins.", CountyTest::commuteAtLeastOne);
        c.sentence("21: (at most ALLOTMENT less those so far).", CountyTest::commuteAtMostTheRest);
        c.sentence("21: NONE, doing nothing: not as told.", CountyTest::commuteNotAsTold);
        c.sentence("21: at most ALLOTMENT (told anew, below what is COMMUTED).",
                CountyTest::commuteAfterALesserOne);
        c.sentence("22: ALLOTMENT (0), COMMUTED (1), coins paid (2).", CountyTest::ofACounty);
        c.sentence("22: BAGS that came (3).", CountyTest::bagsThatCame);
        c.sentence("22: OWED (4), Terms 3: may be below 0.", CountyTest::owed);
        c.sentence("22: -100000: none such.", CountyTest::noneSuch);
        c.sentence("22: of a new object.", CountyTest::countiesAtFirst);
        c.sentence("25: 0 TODAY, 6 REACHES.", CountyTest::countOfDaysAndReaches);
        c.sentence("25: 1 SQUADRONS.", CountyTest::countOfSquadrons);
        c.sentence("25: 2 LAKES.", CountyTest::countOfLakes);
        c.sentence("25: 3 STATUTES.", CountyTest::countOfStatutes);
        c.sentence("25: 4 bytes on the tape.", CountyTest::countOfBytes);
        c.sentence("25: 5 SQUADRONS that came.", CountyTest::countOfThoseThatCame);
        c.sentence("25: NONE for others.", CountyTest::noSuchCount);
        c.end();
    }

    private static void leastAndMostAllotment(Checks c) {
        TributeFleet x = new TributeFleet(3);
        for (int county = 0; county < 6; county++) {
            int told = county;
            c.bounds("allot(" + county + ", ?)", 0, 10000, bags -> x.allot(told, bags));
            c.due("the most of " + county, x.county(county, 0), 10000);
        }
        x.allot(0, 0);
        c.due("the least of 0", x.county(0, 0), 0);
        x.rate(100);
        c.due("all of the most", x.commute(1, 10000), 1000000);
    }

    private static void allot(Checks c) {
        TributeFleet x = new TributeFleet(3);
        c.bounds("allot(?, 7)", 0, 5, county -> x.allot(county, 7));
        c.due("allot(5, 8)", x.allot(5, 8), true);
        c.due("allot(5, 8) again", x.allot(5, 8), true);
        c.due("allot(5, 10001)", x.allot(5, 10001), false);
        c.due("allot(5, -1)", x.allot(5, -1), false);
        c.due("allot(6, 9)", x.allot(6, 9), false);
        int[] want = {7, 0, 0, 0, 0, 8};
        for (int county = 0; county < 6; county++) {
            c.due("county(" + county + ", 0)", x.county(county, 0), want[county]);
        }
    }

    private static void leastAndMostRate(Checks c) {
        TributeFleet x = new TributeFleet(3);
        x.allot(0, 100);
        c.bounds("rate(?)", 0, 100, x::rate);
        c.due("the most", x.commute(0, 3), 300);
        x.rate(0);
        c.due("the least", x.commute(0, 3), 0);
    }

    private static void rateAtFirst(Checks c) {
        TributeFleet x = new TributeFleet(3);
        x.allot(0, 100);
        c.due("coins", x.commute(0, 10), 0);
        c.due("commuted", x.county(0, 1), 10);
        c.due("paid", x.county(0, 2), 0);
    }

    private static void rateFromNowOn(Checks c) {
        TributeFleet x = new TributeFleet(3);
        x.allot(0, 100);
        x.rate(4);
        c.due("at 4", x.commute(0, 10), 40);
        x.rate(5);
        c.due("what was paid ahead of it", x.county(0, 2), 40);
        c.due("at 5", x.commute(0, 10), 50);
        Days.pass(x, 3);
        c.due("over days too", x.commute(0, 10), 50);
        c.due("in all", x.county(0, 2), 140);
    }

    private static void rateNotAsTold(Checks c) {
        TributeFleet x = new TributeFleet(3);
        x.allot(0, 100);
        c.due("rate(4)", x.rate(4), true);
        c.due("rate(4) again", x.rate(4), true);
        c.due("rate(101)", x.rate(101), false);
        c.due("rate(-1)", x.rate(-1), false);
        c.due("4 holds", x.commute(0, 10), 40);
    }

    private static void commuteAtLeastOne(Checks c) {
        TributeFleet x = new TributeFleet(3);
        x.rate(3);
        x.allot(1, 100);
        c.due("commute(1, 0)", x.commute(1, 0), -1);
        c.due("commute(1, -1)", x.commute(1, -1), -1);
        c.due("the least of all numbers", x.commute(1, Integer.MIN_VALUE), -1);
        c.due("commuted", x.county(1, 1), 0);
        c.due("commute(1, 1)", x.commute(1, 1), 3);
        c.due("one is", x.county(1, 1), 1);
    }

    private static void commuteAtMostTheRest(Checks c) {
        TributeFleet x = new TributeFleet(3);
        x.rate(3);
        c.due("without allotment", x.commute(1, 1), -1);
        x.allot(1, 100);
        c.due("one more than the allotment", x.commute(1, 101), -1);
        c.due("the most of all numbers", x.commute(1, Integer.MAX_VALUE), -1);
        c.due("a part", x.commute(1, 60), 180);
        c.due("one more than the rest", x.commute(1, 41), -1);
        c.due("the rest", x.commute(1, 40), 120);
        c.due("one more", x.commute(1, 1), -1);
        c.due("commuted", x.county(1, 1), 100);
        c.due("paid", x.county(1, 2), 300);
        c.due("none of another's", x.commute(2, 1), -1);
        x.allot(1, 101);
        c.due("one more is allotted", x.commute(1, 1), 3);
        x.squadron(3, 1, 50, 0);
        x.allot(3, 60);
        Days.pass(x, 2);
        c.due("what came takes nothing from it", x.commute(3, 60), 180);
    }

    private static void commuteNotAsTold(Checks c) {
        TributeFleet x = new TributeFleet(3);
        x.rate(3);
        for (int county = 0; county < 6; county++) {
            x.allot(county, 100);
        }
        c.bounds("commute(?, 2)", 0, 5, county -> x.commute(county, 2) == 6);
        for (int county = 0; county < 6; county++) {
            int want = county == 0 || county == 5 ? 2 : 0;
            c.due("commuted of " + county, x.county(county, 1), want);
            c.due("paid by " + county, x.county(county, 2), 3 * want);
        }
        c.due("commute(0, 99)", x.commute(0, 99), -1);
        c.due("commuted still", x.county(0, 1), 2);
        c.due("paid still", x.county(0, 2), 6);
    }

    private static void commuteAfterALesserOne(Checks c) {
        TributeFleet x = new TributeFleet(3);
        x.rate(3);
        x.allot(1, 100);
        x.commute(1, 60);
        c.due("a lesser one", x.allot(1, 50), true);
        c.due("nothing is left", x.commute(1, 1), -1);
        c.due("none of none", x.commute(1, 0), -1);
        c.due("commuted stays", x.county(1, 1), 60);
        c.due("paid stays", x.county(1, 2), 180);
        c.due("owed below 0", x.county(1, 4), -10);
        x.allot(1, 61);
        c.due("one is left", x.commute(1, 1), 3);
    }

    private static void ofACounty(Checks c) {
        TributeFleet x = new TributeFleet(3);
        x.rate(7);
        x.allot(4, 90);
        x.commute(4, 20);
        x.commute(4, 30);
        int[] want = {90, 50, 350, 0, 40};
        for (int what = 0; what < 5; what++) {
            c.due("county(4, " + what + ")", x.county(4, what), want[what]);
            c.due("county(3, " + what + ")", x.county(3, what), 0);
        }
    }

    private static void bagsThatCame(Checks c) {
        TributeFleet x = new TributeFleet(3);
        x.squadron(2, 5, 300, 50);
        x.squadron(2, 5, 40, 0);
        x.squadron(3, 5, 1000, 0);
        x.squadron(2, 21, 7, 0);
        x.lose(0, 30);
        x.day();
        c.due("none on the way", x.county(2, 3), 0);
        x.lose(1, 40);
        x.day();
        c.due("270 and 0", x.county(2, 3), 270);
        c.due("of 3", x.county(3, 3), 1000);
        c.due("of 4", x.county(4, 3), 0);
        TributeFleet y = new TributeFleet(3);
        for (int i = 0; i < 12; i++) {
            y.squadron(5, 1, 5000, 0);
        }
        Days.pass(y, 2);
        c.due("the most", y.county(5, 3), 60000);
        c.due("owed by the most", y.county(5, 4), -60000);
    }

    private static void owed(Checks c) {
        TributeFleet x = new TributeFleet(3);
        x.squadron(2, 5, 300, 50);
        x.squadron(2, 5, 101, 50);
        x.lose(0, 30);
        x.allot(2, 500);
        x.commute(2, 130);
        c.due("allotment less commuted", x.county(2, 4), 370);
        x.lock(1, 5);
        Days.pass(x, 2);
        c.due("less what came", x.county(2, 4), 100);
        x.day();
        c.due("below 0", x.county(2, 4), -1);
        x.commute(2, 370);
        c.due("further below 0", x.county(2, 4), -371);
        x.allot(2, 10000);
        c.due("of the most", x.county(2, 4), 9129);
    }

    private static void noneSuch(Checks c) {
        TributeFleet x = new TributeFleet(3);
        for (int what = 0; what < 5; what++) {
            int asked = what;
            c.bounds("county(?, " + what + ")", 0, 5, county -> x.county(county, asked) == 0);
        }
        for (int county = 0; county < 6; county++) {
            int asked = county;
            c.bounds("county(" + county + ", ?)", 0, 4, what -> x.county(asked, what) == 0);
        }
        c.due("county(6, 0)", x.county(6, 0), -100000);
        c.due("county(-1, 4)", x.county(-1, 4), -100000);
        c.due("county(0, 5)", x.county(0, 5), -100000);
        c.due("county(0, -1)", x.county(0, -1), -100000);
    }

    private static void countiesAtFirst(Checks c) {
        TributeFleet x = new TributeFleet(3);
        for (int county = 0; county < 6; county++) {
            for (int what = 0; what < 5; what++) {
                c.due("county(" + county + ", " + what + ")", x.county(county, what), 0);
            }
        }
    }

    private static void countOfDaysAndReaches(Checks c) {
        TributeFleet x = new TributeFleet(7);
        c.due("today at first", x.count(0), 0);
        Days.pass(x, 400);
        c.due("today at last", x.count(0), 400);
        c.due("reaches", x.count(6), 7);
    }

    private static void countOfSquadrons(Checks c) {
        TributeFleet x = new TributeFleet(3);
        for (int i = 0; i < 12; i++) {
            c.due("ahead of " + i, x.count(1), i);
            x.squadron(0, 0, 0, 0);
            x.squadron(0, 1, 0, 0);
        }
        x.squadron(0, 1, 0, 0);
        c.due("at most", x.count(1), 12);
        Days.pass(x, 3);
        c.due("those that came too", x.count(1), 12);
    }

    private static void countOfLakes(Checks c) {
        TributeFleet x = new TributeFleet(3);
        for (int i = 0; i < 4; i++) {
            c.due("ahead of " + i, x.count(2), i);
            x.lake(3, 0);
            x.lake(0, 0);
        }
        x.lake(0, 0);
        c.due("at most", x.count(2), 4);
    }

    private static void countOfStatutes(Checks c) {
        TributeFleet x = new TributeFleet(3);
        for (int i = 0; i < 10; i++) {
            c.due("ahead of " + i, x.count(3), i);
            Texts.statute(x, "loss");
            Texts.statute(x, "loss 1;");
        }
        Texts.statute(x, "loss 1;");
        c.due("at most", x.count(3), 10);
    }

    private static void countOfBytes(Checks c) {
        TributeFleet x = new TributeFleet(3);
        for (int i = 0; i < 20; i++) {
            c.due("ahead of " + i, x.count(4), 20 * i);
            x.feed(i, i, i, i, i);
        }
        x.feed(0, 0, 0, 0, 0);
        c.due("at most", x.count(4), 400);
        x.statute(401);
        c.due("after a refusal", x.count(4), 400);
        x.statute(1);
        c.due("after a fault", x.count(4), 0);
    }

    private static void countOfThoseThatCame(Checks c) {
        TributeFleet x = new TributeFleet(3);
        for (int i = 0; i < 12; i++) {
            x.squadron(0, 10, 0, 0);
        }
        int[] want = {0, 0, 2, 4, 6, 8, 10, 12, 12};
        for (int day = 0; day < want.length; day++) {
            c.due("on " + day, x.count(5), want[day]);
            x.water(1, 100);
            x.water(2, 100);
            x.day();
        }
    }

    private static void noSuchCount(Checks c) {
        TributeFleet x = new TributeFleet(3);
        c.bounds("count(?)", 0, 6, what -> x.count(what) != -1);
        for (int shift = 3; shift < 32; shift++) {
            c.due("count(1 << " + shift + ")", x.count(1 << shift), -1);
        }
    }
}
