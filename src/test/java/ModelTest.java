import java.util.Random;

/** Runs of calls of all kinds on the program and on the Model: every answer is the same. */
public final class ModelTest {
    private static final int RUNS = 1500;
    /** An object answers 512 calls as promised; a long text takes some thirty. */
    private static final int CALLS = 512 - 30;
    private static final int KINDS = 24;
    private static final int[] FAR = {Integer.MIN_VALUE, Integer.MIN_VALUE + 1, -100001, -1000, -2,
        256, 1 << 12, 65536, 1 << 30, Integer.MAX_VALUE - 1, Integer.MAX_VALUE};
    private static final String[] PIECES = {"order", "county", "boats", "told", "days", "is", "loss",
        "private", "fine", ";", " ", "\n", "0", "7", "012", "999", "1000", "Fine", "fines", "%", "\t",
        "\u0000", "\u00e9", "\u00ff"};

    private final Checks c;
    private final Random random;
    private final int[] weights = new int[KINDS];
    private final int reaches;
    private final TributeFleet x;
    private final Model model;
    private int calls = 0;

    private ModelTest(Checks c, int run) {
        this.c = c;
        random = new Random(run);
        int told = any(3, 12);
        x = new TributeFleet(told);
        model = new Model(told);
        reaches = model.count(6);
        for (int i = 0; i < KINDS; i++) {
            weights[i] = random.nextInt(6);
        }
        // Without days and what is asked of them a run would show little.
        weights[14] += 2 + random.nextInt(20);
        weights[15] += 5;
        weights[16] += 3;
    }

    public static void main(String[] args) {
        Checks c = new Checks();
        for (int run = 0; run < RUNS; run++) {
            ModelTest test = new ModelTest(c, run);
            c.sentence("run " + run + " beside the Model", each -> test.callAll());
        }
        c.end();
    }

    private void callAll() {
        if (random.nextBoolean()) {
            begin();
        }
        while (calls < CALLS) {
            call(kind());
        }
    }

    /** Enough squadrons and water that some come. */
    private void begin() {
        for (int i = random.nextInt(10); i > 0; i--) {
            call(7);
        }
        for (int i = 0; i < reaches && random.nextInt(5) > 0; i++) {
            due("water", x.water(i, 900), model.water(i, 900));
        }
    }

    private int kind() {
        int sum = 0;
        for (int weight : weights) {
            sum += weight;
        }
        int left = random.nextInt(sum);
        int kind = 0;
        while (left >= weights[kind]) {
            left -= weights[kind];
            kind++;
        }
        return kind;
    }

    private int between(int least, int most) {
        return least + random.nextInt(most - least + 1);
    }

    /** Mostly a number of the range, often its ends, now and then one outside. */
    private int any(int least, int most) {
        return switch (random.nextInt(40)) {
            case 0 -> FAR[random.nextInt(FAR.length)];
            case 1 -> least - 1;
            case 2 -> most + 1;
            case 3, 4, 5 -> least;
            case 6, 7, 8 -> most;
            default -> between(least, most);
        };
    }

    private void due(String call, boolean got, boolean want) {
        due(call, got ? 1 : 0, want ? 1 : 0);
    }

    private void due(String call, int got, int want) {
        calls++;
        c.due("call " + calls + ", " + call, got, want);
    }

    private void call(int kind) {
        if (kind < 6) {
            tellCanal(kind);
        } else if (kind < 11) {
            tellText(kind);
        } else if (kind < 18) {
            goOn(kind);
        } else {
            tellCounties(kind);
        }
    }

    private void tellCanal(int kind) {
        int reach = any(0, reaches - 1);
        int lock = any(0, reaches - 2);
        int much = any(0, 1000);
        int few = any(1, 60);
        switch (kind) {
            case 0 -> due("water", x.water(reach, much), model.water(reach, much));
            case 1 -> due("lock", x.lock(lock, few), model.lock(lock, few));
            case 2 -> {
                int store = any(0, random.nextBoolean() ? 5000 : 200);
                due("lake", x.lake(reach, store), model.lake(reach, store));
            }
            case 3 -> {
                int lake = any(0, 3);
                int given = any(0, 100);
                due("give", x.give(lake, given), model.give(lake, given));
            }
            case 4 -> {
                int day = random.nextBoolean() ? any(0, 400) : between(0, 400);
                due("ice", x.ice(day, reach), model.ice(day, reach));
            }
            default -> {
                int what = any(0, 3);
                due("reach", x.reach(reach, what), model.reach(reach, what));
                due("store", x.store(what), model.store(what));
            }
        }
    }

    private void tellText(int kind) {
        switch (kind) {
            case 6 -> enact(random.nextInt(3) == 0 ? pieces() : text());
            case 7 -> {
                int county = any(0, 5);
                int boats = random.nextBoolean() ? any(1, 50) : between(1, 12);
                int bags = any(0, 5000);
                int goods = random.nextBoolean() ? any(0, 2000) : between(0, 60);
                due("squadron", x.squadron(county, boats, bags, goods),
                        model.squadron(county, boats, bags, goods));
            }
            case 8 -> {
                int day = random.nextBoolean() ? any(0, 400) : model.count(0);
                int what = any(0, 21);
                due("law", x.law(day, what), model.law(day, what));
                due("fault", x.fault(), model.fault());
            }
            case 9 -> {
                int number = random.nextInt();
                due("feed", x.feed(number, 1, 2, 3, ~number), model.feed(number, 1, 2, 3, ~number));
            }
            default -> {
                int n = any(0, Math.max(0, model.count(4)));
                due("statute", x.statute(n), model.statute(n));
            }
        }
    }

    private void enact(String text) {
        for (int at = 0; at < text.length(); at += Texts.BYTES_A_FEED) {
            int[] five = Texts.numbers(text, at);
            due("feed", x.feed(five[0], five[1], five[2], five[3], five[4]), model.feed(five));
        }
        int n = random.nextInt(6) == 0 ? between(0, text.length()) : text.length();
        due("statute of " + text, x.statute(n), model.statute(n));
        due("fault of " + text, x.fault(), model.fault());
        int what = any(0, 21);
        due("law", x.law(model.count(0), what), model.law(model.count(0), what));
    }

    private String pieces() {
        StringBuilder text = new StringBuilder();
        for (int i = random.nextInt(9); i > 0; i--) {
            text.append(PIECES[random.nextInt(PIECES.length)]).append(blanks());
        }
        return text.toString();
    }

    private String blanks() {
        return new String[] {"", " ", " ", "\n", " \n "}[random.nextInt(5)];
    }

    /** Statements, seldom more than sixteen, seldom with a sign changed. */
    private String text() {
        StringBuilder text = new StringBuilder();
        int statements = random.nextInt(8) == 0 ? between(14, 18) : random.nextInt(6);
        for (int i = 0; i < statements; i++) {
            text.append(blanks()).append(statement());
        }
        if (text.length() > 0 && random.nextInt(4) == 0) {
            int at = random.nextInt(text.length());
            String piece = PIECES[random.nextInt(PIECES.length)];
            text.replace(at, Math.min(text.length(), at + random.nextInt(4)), piece);
        }
        return text.toString();
    }

    private String statement() {
        int number = new int[] {0, 1, 2, 3, 50, 999}[random.nextInt(6)];
        return switch (random.nextInt(6)) {
            case 0 -> "order county" + blanks() + ";";
            case 1 -> "order\nboats;";
            case 2 -> "order told;";
            case 3 -> "days " + any(0, reaches - 1) % 1000 + blanks() + "is" + blanks() + number + ";";
            case 4 -> "loss" + number + ";";
            default -> (random.nextBoolean() ? "fine " : "private ") + number + ";";
        };
    }

    private void goOn(int kind) {
        int squadron = any(0, Math.max(0, model.count(1) - 1));
        switch (kind) {
            case 11 -> {
                boolean is = random.nextBoolean();
                due("leave", x.leave(squadron, is), model.leave(squadron, is));
            }
            case 12 -> {
                int bags = any(1, Math.max(1, model.told(squadron, 2)));
                due("lose", x.lose(squadron, bags), model.lose(squadron, bags));
            }
            case 13 -> {
                int day = any(0, 400);
                day = random.nextBoolean() ? Math.min(day, model.count(0) + random.nextInt(9)) : day;
                due("due", x.due(squadron, day), model.due(squadron, day));
            }
            case 14 -> due("day", x.day(), model.day());
            case 15 -> {
                int what = random.nextInt(3) == 0 ? any(31, 34) : any(0, 22);
                due("told", x.told(squadron, what), model.told(squadron, what));
                due("told why", x.told(squadron, 3), model.told(squadron, 3));
            }
            case 16 -> {
                int what = any(0, 3);
                due("judge", x.judge(squadron, what), model.judge(squadron, what));
            }
            default -> least();
        }
    }

    private void least() {
        int set = 0;
        for (int i = between(0, 5); i > 0; i--) {
            set |= 1 << random.nextInt(Math.max(1, model.count(1)));
        }
        set = random.nextInt(9) == 0 ? any(0, 4095) : set;
        int lock = any(0, reaches - 2);
        int k = any(-1, 5);
        due("least", x.least(set, lock, -1), model.least(set, lock, -1));
        due("least", x.least(set, lock, k), model.least(set, lock, k));
    }

    private void tellCounties(int kind) {
        int county = any(0, 5);
        int what = any(0, 4);
        switch (kind) {
            case 18 -> {
                int bags = any(0, 10000);
                due("allot", x.allot(county, bags), model.allot(county, bags));
            }
            case 19 -> {
                int coins = any(0, 100);
                due("rate", x.rate(coins), model.rate(coins));
            }
            case 20 -> {
                int left = model.county(county, 0) - model.county(county, 1);
                int bags = any(1, Math.max(1, random.nextBoolean() ? left : left / 9));
                due("commute", x.commute(county, bags), model.commute(county, bags));
            }
            case 21, 22 -> due("county", x.county(county, what), model.county(county, what));
            default -> {
                int counted = any(0, 6);
                due("count", x.count(counted), model.count(counted));
            }
        }
    }
}
