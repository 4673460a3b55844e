/** Long runs of calls of all kinds, extreme numbers among them: each answers, within its bounds. */
public final class BoundsTest {
    private static final int CALLS = 400;
    private static final int[] EXTREMES = {Integer.MIN_VALUE, Integer.MIN_VALUE + 9, -65536, -3, -2,
        -1, 13, 22, 35, 61, 401, 5001, 10001, 1 << 12, 1 << 30, Integer.MAX_VALUE - 9,
        Integer.MAX_VALUE};
    private static final String[] PIECES = {"order county;", "order boats;", "order told;", "days ",
        "0 is 1;", "11 is 0;", "loss 7;", "private 3;", "fine 2;", "fine", "\n", "?", "1000", ";"};

    private final TributeFleet x;
    private int seed;

    private BoundsTest(int seed) {
        this.seed = seed;
        x = new TributeFleet(number(3, 12));
    }

    public static void main(String[] args) {
        Checks c = new Checks();
        for (int run = 1; run <= 400; run++) {
            BoundsTest test = new BoundsTest(run * 7919);
            test.callAll();
            test.look(c, run);
        }
        c.end();
    }

    private int number(int least, int most) {
        seed = seed * 1103515245 + 12345;
        return least + (seed >>> 12) % (most - least + 1);
    }

    /** Mostly a number of the range, now and then one far outside. */
    private int any(int least, int most) {
        return number(0, 15) == 0 ? EXTREMES[number(0, EXTREMES.length - 1)] : number(least, most);
    }

    private void callAll() {
        for (int call = 0; call < CALLS; call++) {
            int which = number(0, 29);
            if (which < 8) {
                tell(which);
            } else if (which < 16) {
                change(which);
            } else {
                ask(which);
            }
        }
    }

    private void tell(int which) {
        switch (which) {
            case 0 -> x.water(any(0, 11), any(0, 1000));
            case 1 -> x.lock(any(0, 10), any(1, 60));
            case 2 -> x.lake(any(0, 11), any(0, 5000));
            case 3 -> x.give(any(0, 3), any(0, 100));
            case 4 -> x.ice(any(0, 400), any(0, 11));
            case 5 -> x.squadron(any(0, 5), any(1, 50), any(0, 5000), any(0, 2000));
            case 6 -> x.feed(any(0, 9), any(0, 9), any(0, 9), any(0, 9), any(0, 9));
            default -> x.statute(any(0, 3));
        }
    }

    private void change(int which) {
        switch (which) {
            case 8 -> Texts.statute(x, PIECES[number(0, 13)] + PIECES[number(0, 13)]);
            case 9 -> x.leave(any(0, 11), number(0, 1) == 0);
            case 10 -> x.lose(any(0, 11), any(1, 500));
            case 11 -> x.allot(any(0, 5), any(0, 10000));
            case 12 -> x.rate(any(0, 100));
            case 13 -> x.commute(any(0, 5), any(1, 900));
            case 14 -> x.due(any(0, 11), any(0, 400));
            default -> x.day();
        }
    }

    private void ask(int which) {
        switch (which) {
            case 16 -> x.law(any(0, 400), any(0, 22));
            case 17 -> x.told(any(0, 11), any(0, 34));
            case 18 -> x.judge(any(0, 11), any(0, 3));
            case 19 -> x.reach(any(0, 11), any(0, 3));
            case 20 -> x.store(any(0, 3));
            case 21 -> x.county(any(0, 5), any(0, 4));
            case 22 -> x.least(any(0, 255), any(0, 10), any(-1, 5));
            case 23 -> x.count(any(0, 6));
            case 24 -> x.fault();
            default -> x.day();
        }
    }

    private void look(Checks c, int run) {
        int reaches = x.count(6);
        for (int i = 0; i < reaches; i++) {
            within(c, run, "water", x.reach(i, 0), 0, 1000);
        }
        for (int i = 0; i < x.count(2); i++) {
            within(c, run, "store", x.store(i), 0, 5000);
        }
        int came = 0;
        for (int i = 0; i < x.count(1) && i < 3; i++) {
            int days = 0;
            for (int r = 0; r < reaches; r++) {
                days += x.told(i, 10 + r);
            }
            int barred = x.told(i, 31) + x.told(i, 32) + x.told(i, 33) + x.told(i, 34);
            c.due("run " + run + ": days of " + i, days, x.told(i, 0) + barred);
            boolean atCapital = x.told(i, 0) == reaches - 1;
            c.due("run " + run + ": came " + i, x.told(i, 1) != -1, atCapital);
            came += atCapital ? 1 : 0;
        }
        within(c, run, "count(5)", x.count(5), came, x.count(1));
    }

    private static void within(Checks c, int run, String what, int got, int least, int most) {
        c.due("run " + run + ": " + what + " of " + got, got >= least && got <= most, true);
    }
}
