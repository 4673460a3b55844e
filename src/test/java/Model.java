import java.nio.ByteBuffer;
import java.util.ArrayList;
import java.util.Arrays;
import java.util.Comparator;
import java.util.List;
import java.util.regex.Matcher;
import java.util.regex.Pattern;

/**
 * The document a second time, in another form than the program's: journals are kept and counted
 * when asked, a text is looked at as a whole by patterns, all orders are tried.
 */
final class Model {
    private static final int NONE = -1;
    private static final Pattern TOKEN = Pattern.compile("[a-z]+|[0-9]+|[^a-z0-9 \n]");
    private static final Pattern STATUTE = Pattern.compile("(?:o[cbt];|d#i#;|[lpf]#;){0,16}");
    private static final String[] ENDS = {"", ";", "#;", "i#;", "#i#;", "c;"};
    private static final List<String> WORDS = List.of("order", "county", "boats", "told", "days",
        "is", "loss", "private", "fine", ";");

    private record Token(int place, String text) {
        String sign() {
            if (text.matches("[0-9]{1,3}")) {
                return "#";
            }
            return WORDS.contains(text) ? text.substring(0, 1) : "?";
        }
    }

    private record Law(int fromDay, int number, List<Token> tokens) {
        /** What stands behind the last of these words, or what holds without one. */
        int last(String word, int otherwise) {
            int found = otherwise;
            for (int i = 0; i + 1 < tokens.size(); i++) {
                if (tokens.get(i).text().equals(word)) {
                    found = value(tokens.get(i + 1));
                }
            }
            return found;
        }

        int allowed(int reach) {
            int found = 3;
            for (int i = 0; i + 3 < tokens.size(); i++) {
                boolean isDays = tokens.get(i).text().equals("days");
                if (isDays && value(tokens.get(i + 1)) == reach) {
                    found = value(tokens.get(i + 3));
                }
            }
            return found;
        }

        private static int value(Token token) {
            List<String> orders = List.of("county", "boats", "told");
            int order = orders.indexOf(token.text());
            return order >= 0 ? order : Integer.parseInt(token.text());
        }
    }

    private record Day(int reach, int cause) { }

    private record Payment(int bags, int coins) { }

    private static final class Ship {
        int number;
        int county;
        int boats;
        int bags;
        int goods;
        int reach;
        int came = NONE;
        int left;
        int due = 400;
        boolean leave;
        final List<Day> days = new ArrayList<>();
        int latestDay = NONE;

        long daysIn(int where) {
            return days.stream().filter(day -> day.reach() == where).count();
        }

        long daysBy(int cause) {
            return days.stream().filter(day -> day.cause() == cause).count();
        }
    }

    private static final class Lake {
        int reach;
        int store;
        int gives;
    }

    private final int[] water;
    private final int[] locks;
    private final List<Lake> lakes = new ArrayList<>();
    private final List<Ship> ships = new ArrayList<>();
    private final List<Law> laws = new ArrayList<>();
    private final List<List<Payment>> payments = new ArrayList<>();
    private final int[] allotments = new int[6];
    private final StringBuilder tape = new StringBuilder();
    private int rate;
    private int today;
    private int fault = NONE;
    private int iceDay = Integer.MAX_VALUE;
    private int iceReach;

    Model(int reaches) {
        int n = reaches < 3 ? 3 : reaches > 12 ? 12 : reaches;
        water = new int[n];
        locks = new int[n - 1];
        Arrays.fill(water, 100);
        Arrays.fill(locks, 20);
        for (int i = 0; i < 6; i++) {
            payments.add(new ArrayList<>());
        }
    }

    private static boolean in(int number, int least, int most) {
        return least <= number && number <= most;
    }

    boolean water(int reach, int much) {
        boolean asTold = in(reach, 0, water.length - 1) && in(much, 0, 1000);
        if (asTold) {
            water[reach] = much;
        }
        return asTold;
    }

    boolean lock(int lock, int boats) {
        boolean asTold = in(lock, 0, locks.length - 1) && in(boats, 1, 60);
        if (asTold) {
            locks[lock] = boats;
        }
        return asTold;
    }

    int lake(int reach, int store) {
        if (lakes.size() == 4 || !in(reach, 0, water.length - 1) || !in(store, 0, 5000)) {
            return NONE;
        }
        Lake lake = new Lake();
        lake.reach = reach;
        lake.store = store;
        lakes.add(lake);
        return lakes.indexOf(lake);
    }

    boolean give(int lake, int much) {
        boolean asTold = in(lake, 0, lakes.size() - 1) && in(much, 0, 100);
        if (asTold) {
            lakes.get(lake).gives = much;
        }
        return asTold;
    }

    boolean ice(int day, int reach) {
        boolean asTold = in(day, 0, 400) && in(reach, 0, water.length - 1);
        if (asTold) {
            iceDay = day;
            iceReach = reach;
        }
        return asTold;
    }

    int squadron(int county, int boats, int bags, int goods) {
        boolean asTold = in(county, 0, 5) && in(boats, 1, 50) && in(bags, 0, 5000)
                && in(goods, 0, 2000);
        if (!asTold || ships.size() == 12) {
            return NONE;
        }
        Ship ship = new Ship();
        ship.number = ships.size();
        ship.county = county;
        ship.boats = boats;
        ship.bags = bags;
        ship.goods = goods;
        ship.left = bags;
        ships.add(ship);
        return ship.number;
    }

    int feed(int... numbers) {
        if (tape.length() > 380) {
            return NONE;
        }
        for (int number : numbers) {
            for (byte each : ByteBuffer.allocate(4).putInt(number).array()) {
                tape.append((char) (each & 255));
            }
        }
        return tape.length();
    }

    int statute(int n) {
        if (!in(n, 0, tape.length())) {
            return -2;
        }
        if (laws.size() == 10) {
            return -3;
        }
        List<Token> tokens = new ArrayList<>();
        Matcher matcher = TOKEN.matcher(tape.substring(0, n));
        while (matcher.find()) {
            tokens.add(new Token(matcher.start(), matcher.group()));
        }
        tape.setLength(0);
        fault = faultOf(tokens, n);
        if (fault != NONE) {
            return NONE;
        }
        laws.add(new Law(today, laws.size(), tokens));
        return laws.size() - 1;
    }

    private static int faultOf(List<Token> tokens, int length) {
        String signs = "";
        for (Token token : tokens) {
            signs += token.sign();
            if (!goesOn(signs)) {
                return token.place();
            }
        }
        return STATUTE.matcher(signs).matches() ? NONE : length;
    }

    private static boolean goesOn(String signs) {
        for (String end : ENDS) {
            if (STATUTE.matcher(signs + end).matches()) {
                return true;
            }
        }
        return false;
    }

    int fault() {
        return fault;
    }

    private Law inForce(int day) {
        Law found = new Law(0, NONE, List.of());
        for (Law law : laws) {
            found = law.fromDay() <= day ? law : found;
        }
        return found;
    }

    int law(int day, int what) {
        if (!in(day, 0, 400)) {
            return NONE;
        }
        Law law = inForce(day);
        return switch (what) {
            case 0 -> law.last("order", 2);
            case 1 -> law.last("loss", 20);
            case 2 -> law.last("private", 2);
            case 3 -> law.last("fine", 1);
            case 4 -> law.number();
            default -> in(what, 10, 9 + water.length) ? law.allowed(what - 10) : NONE;
        };
    }

    private boolean isShip(int squadron) {
        return in(squadron, 0, ships.size() - 1);
    }

    boolean leave(int squadron, boolean is) {
        if (!isShip(squadron) || ships.get(squadron).leave == is) {
            return false;
        }
        ships.get(squadron).leave = is;
        return true;
    }

    int lose(int squadron, int bags) {
        if (!isShip(squadron)) {
            return NONE;
        }
        Ship ship = ships.get(squadron);
        if (ship.came != NONE || bags < 1 || bags > ship.left) {
            return NONE;
        }
        return ship.left -= bags;
    }

    int day() {
        if (today == 400) {
            return NONE;
        }
        for (Lake lake : lakes) {
            for (int drop = 0; drop < lake.gives; drop++) {
                giveDrop(lake);
            }
        }
        int order = inForce(today).last("order", 2);
        List<Ship> line = new ArrayList<>(ships);
        line.sort(order == 0 ? Comparator.comparingInt((Ship ship) -> ship.county)
                : order == 1 ? Comparator.comparingInt((Ship ship) -> -ship.boats)
                : Comparator.comparingInt((Ship ship) -> ship.number));
        for (int lock = locks.length - 1; lock >= 0; lock--) {
            final int lower = lock;
            passLock(lock, line.stream().filter(ship -> ship.reach == lower).toList());
        }
        return ++today;
    }

    private void giveDrop(Lake lake) {
        if (lake.store > 0 && water[lake.reach] < 1000) {
            lake.store--;
            water[lake.reach]++;
        }
    }

    private void passLock(int lock, List<Ship> line) {
        List<Ship> stayed = new ArrayList<>();
        List<Ship> passed = new ArrayList<>();
        for (Ship ship : line) {
            int used = passed.stream().mapToInt(each -> each.boats).sum();
            int cause = 0;
            if (!stayed.isEmpty() && !ship.leave) {
                cause = 4;
            }
            if (locks[lock] - used < ship.boats) {
                cause = 3;
            }
            if (water[lock + 1] < 20 + ship.boats) {
                cause = 2;
            }
            if (isIcy(lock) || isIcy(lock + 1)) {
                cause = 1;
            }
            ship.days.add(new Day(lock, cause));
            ship.latestDay = today;
            if (cause > 0) {
                stayed.add(ship);
                continue;
            }
            passed.add(ship);
            water[lock + 1] -= ship.boats;
            water[lock] = Math.min(1000, water[lock] + ship.boats);
            ship.reach = lock + 1;
            ship.came = ship.reach == locks.length ? today : NONE;
        }
    }

    private boolean isIcy(int reach) {
        return iceDay <= today && iceReach <= reach;
    }

    int told(int squadron, int what) {
        if (!isShip(squadron)) {
            return NONE;
        }
        Ship ship = ships.get(squadron);
        return switch (what) {
            case 0 -> ship.reach;
            case 1 -> ship.came;
            case 2 -> ship.left;
            case 3 -> ship.latestDay != NONE && ship.latestDay == today - 1
                    ? ship.days.get(ship.days.size() - 1).cause() : 0;
            case 4 -> (int) ship.daysIn(ship.reach);
            case 5 -> ship.leave ? 1 : 0;
            case 31, 32, 33, 34 -> (int) ship.daysBy(what - 30);
            default -> in(what, 10, 9 + water.length) ? (int) ship.daysIn(what - 10) : NONE;
        };
    }

    int judge(int squadron, int what) {
        if (!isShip(squadron) || ships.get(squadron).came == NONE || !in(what, 0, 3)) {
            return NONE;
        }
        Ship ship = ships.get(squadron);
        Law law = inForce(ship.came);
        int over = 0;
        for (int r = 0; r < locks.length; r++) {
            over += Math.max(0, (int) ship.daysIn(r) - law.allowed(r));
        }
        int mayBeLost = (int) Math.floor(ship.bags * law.last("loss", 20) / 1000.0);
        int shortBags = Math.max(0, ship.bags - ship.left - mayBeLost);
        int goods = Math.max(0, ship.goods - law.last("private", 2) * ship.boats);
        int coins = law.last("fine", 1) * (over + shortBags + goods);
        return new int[] {over, shortBags, goods, coins}[what];
    }

    int reach(int reach, int what) {
        if (!in(reach, 0, locks.length)) {
            return NONE;
        }
        return switch (what) {
            case 0 -> water[reach];
            case 1 -> ships.stream().filter(ship -> ship.reach == reach).mapToInt(ship -> ship.boats).sum();
            case 2 -> isIcy(reach) ? 1 : 0;
            case 3 -> reach < locks.length ? locks[reach] : NONE;
            default -> NONE;
        };
    }

    int store(int lake) {
        return in(lake, 0, lakes.size() - 1) ? lakes.get(lake).store : NONE;
    }

    boolean allot(int county, int bags) {
        boolean asTold = in(county, 0, 5) && in(bags, 0, 10000);
        if (asTold) {
            allotments[county] = bags;
        }
        return asTold;
    }

    boolean rate(int coins) {
        boolean asTold = in(coins, 0, 100);
        if (asTold) {
            rate = coins;
        }
        return asTold;
    }

    private int commuted(int county) {
        return payments.get(county).stream().mapToInt(Payment::bags).sum();
    }

    int commute(int county, int bags) {
        if (!in(county, 0, 5) || bags < 1 || bags > allotments[county] - commuted(county)) {
            return NONE;
        }
        payments.get(county).add(new Payment(bags, bags * rate));
        return bags * rate;
    }

    int county(int county, int what) {
        if (!in(county, 0, 5)) {
            return -100000;
        }
        int came = ships.stream().filter(ship -> ship.county == county && ship.came != NONE)
                .mapToInt(ship -> ship.left).sum();
        return switch (what) {
            case 0 -> allotments[county];
            case 1 -> commuted(county);
            case 2 -> payments.get(county).stream().mapToInt(Payment::coins).sum();
            case 3 -> came;
            case 4 -> allotments[county] - commuted(county) - came;
            default -> -100000;
        };
    }

    boolean due(int squadron, int day) {
        boolean asTold = isShip(squadron) && in(day, 0, 400);
        if (asTold) {
            ships.get(squadron).due = day;
        }
        return asTold;
    }

    int least(int set, int lock, int k) {
        List<Ship> members = new ArrayList<>();
        for (int bit = 0; bit < 32; bit++) {
            boolean isIn = (set & 1 << bit) != 0;
            if (isIn && bit >= ships.size()) {
                return NONE;
            }
            if (isIn) {
                members.add(ships.get(bit));
            }
        }
        if (members.size() > 6 || !in(lock, 0, locks.length - 1) || !in(k, -1, members.size() - 1)) {
            return NONE;
        }
        List<Ship> best = new ArrayList<>(members);
        tryOrders(members, new ArrayList<>(), best, lock);
        return k == NONE ? late(best, lock) : best.get(k).number;
    }

    /** Tries them by numbers, so that only a lesser sum takes the place of an earlier order. */
    private void tryOrders(List<Ship> waiting, List<Ship> order, List<Ship> best, int lock) {
        if (waiting.isEmpty() && late(order, lock) < late(best, lock)) {
            best.clear();
            best.addAll(order);
        }
        for (Ship next : waiting) {
            List<Ship> others = new ArrayList<>(waiting);
            others.remove(next);
            List<Ship> longer = new ArrayList<>(order);
            longer.add(next);
            tryOrders(others, longer, best, lock);
        }
    }

    private int late(List<Ship> order, int lock) {
        int end = today;
        int sum = 0;
        for (Ship ship : order) {
            end += (int) Math.ceil(ship.boats / (double) locks[lock]);
            sum += Math.max(0, end - ship.due);
        }
        return sum;
    }

    int count(int what) {
        return switch (what) {
            case 0 -> today;
            case 1 -> ships.size();
            case 2 -> lakes.size();
            case 3 -> laws.size();
            case 4 -> tape.length();
            case 5 -> (int) ships.stream().filter(ship -> ship.came != NONE).count();
            case 6 -> water.length;
            default -> NONE;
        };
    }
}
