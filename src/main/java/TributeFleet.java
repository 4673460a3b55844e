/** Grain fleets up one canal. ../shared/DOC.md says what each call does and answers. */
public final class TributeFleet {
    public static final int NONE = -1;

    private static final int FEWEST_REACHES = 3;
    private static final int MOST_REACHES = 12;
    private static final int MOST_WATER = 1000;
    private static final int MOST_LOCK_BOATS = 60;
    private static final int MOST_STORE = 5000;
    private static final int MOST_GIVEN = 100;
    private static final int LAST_DAY = 400;
    private static final int LAST_COUNTY = 5;
    private static final int MOST_BOATS = 50;
    private static final int MOST_BAGS = 5000;
    private static final int MOST_GOODS = 2000;
    private static final int MOST_ALLOTTED = 10000;
    private static final int MOST_RATE = 100;
    private static final int NO_SUCH_COUNTY = -100000;
    private static final int NOT_SO_MANY_BYTES = -2;
    private static final int TOO_MANY_STATUTES = -3;

    private static final int ICE = 1;
    private static final int LOW_WATER = 2;
    private static final int LOCK_USED_UP = 3;
    private static final int BEHIND_ANOTHER = 4;
    private static final int CAUSES = 4;

    private static final int BY_COUNTY = 0;
    private static final int BY_BOATS = 1;
    private static final int BY_NUMBERS = 2;

    private final Canal canal;
    private final Fleet fleet;
    private final Tape tape;
    private final Reader reader;
    private final Code code;
    private final Counties counties;
    private final Schedule schedule;
    private int today;
    private int faultPlace;

    public TributeFleet(int reaches) {
        int held = Math.max(FEWEST_REACHES, Math.min(MOST_REACHES, reaches));
        canal = new Canal(held);
        fleet = new Fleet();
        tape = new Tape();
        reader = new Reader(tape);
        code = new Code(held);
        counties = new Counties();
        schedule = new Schedule();
        today = 0;
        faultPlace = NONE;
    }

    public boolean water(int reach, int much) {
        if (!canal.hasReach(reach) || !isWithin(much, 0, MOST_WATER)) {
            return false;
        }
        canal.water[reach] = much;
        return true;
    }

    public boolean lock(int lock, int boats) {
        if (!canal.hasLock(lock) || !isWithin(boats, 1, MOST_LOCK_BOATS)) {
            return false;
        }
        canal.lockBoats[lock] = boats;
        return true;
    }

    public int lake(int reach, int store) {
        if (!canal.hasReach(reach) || !isWithin(store, 0, MOST_STORE)) {
            return NONE;
        }
        return canal.addLake(reach, store);
    }

    public boolean give(int lake, int much) {
        if (!canal.hasLake(lake) || !isWithin(much, 0, MOST_GIVEN)) {
            return false;
        }
        canal.lakeGives[lake] = much;
        return true;
    }

    public boolean ice(int day, int reach) {
        if (!isDay(day) || !canal.hasReach(reach)) {
            return false;
        }
        canal.iceDay = day;
        canal.iceReach = reach;
        return true;
    }

    public int squadron(int county, int boats, int bags, int goods) {
        boolean asTold = isCounty(county) && isWithin(boats, 1, MOST_BOATS)
                && isWithin(bags, 0, MOST_BAGS) && isWithin(goods, 0, MOST_GOODS);
        if (!asTold || fleet.isFull()) {
            return NONE;
        }
        return fleet.add(new Squadron(canal.reaches, county, boats, bags, goods));
    }

    public int feed(int a, int b, int c, int d, int e) {
        if (!tape.hasRoom()) {
            return NONE;
        }
        tape.append(a);
        tape.append(b);
        tape.append(c);
        tape.append(d);
        tape.append(e);
        return tape.size;
    }

    public int statute(int n) {
        if (n < 0 || n > tape.size) {
            return NOT_SO_MANY_BYTES;
        }
        if (code.isFull()) {
            return TOO_MANY_STATUTES;
        }
        Statute draft = new Statute(canal.reaches, code.size, today);
        faultPlace = reader.read(n, draft);
        tape.size = 0;
        return faultPlace == NONE ? code.take(draft) : NONE;
    }

    public int fault() {
        return faultPlace;
    }

    public int law(int day, int what) {
        return isDay(day) ? code.inForce(day).tell(what) : NONE;
    }

    public boolean leave(int squadron, boolean is) {
        Squadron found = fleet.find(squadron);
        if (found == null || found.hasLeave == is) {
            return false;
        }
        found.hasLeave = is;
        return true;
    }

    public int lose(int squadron, int bags) {
        Squadron found = fleet.find(squadron);
        if (found == null || found.hasCome() || !isWithin(bags, 1, found.bagsLeft())) {
            return NONE;
        }
        found.lost += bags;
        return found.bagsLeft();
    }

    public int day() {
        if (today >= LAST_DAY) {
            return NONE;
        }
        canal.takeFromLakes();
        fleet.beginDay();
        fleet.lineUp(code.inForce(today).order);
        for (int lock = canal.reaches - 2; lock >= 0; lock--) {
            workLock(lock);
        }
        today++;
        return today;
    }

    public int told(int squadron, int what) {
        Squadron found = fleet.find(squadron);
        return found == null ? NONE : found.tell(what);
    }

    public int judge(int squadron, int what) {
        Squadron found = fleet.find(squadron);
        if (found == null || !found.hasCome()) {
            return NONE;
        }
        return found.judgedBy(code.inForce(found.cameOn), what);
    }

    public int reach(int reach, int what) {
        if (!canal.hasReach(reach)) {
            return NONE;
        }
        switch (what) {
            case 0:
                return canal.water[reach];
            case 1:
                return fleet.boatsIn(reach);
            case 2:
                return canal.isIcy(reach, today) ? 1 : 0;
            case 3:
                return canal.hasLock(reach) ? canal.lockBoats[reach] : NONE;
            default:
                return NONE;
        }
    }

    public int store(int lake) {
        return canal.hasLake(lake) ? canal.lakeStore[lake] : NONE;
    }

    public boolean allot(int county, int bags) {
        if (!isCounty(county) || !isWithin(bags, 0, MOST_ALLOTTED)) {
            return false;
        }
        counties.allotted[county] = bags;
        return true;
    }

    public boolean rate(int coins) {
        if (!isWithin(coins, 0, MOST_RATE)) {
            return false;
        }
        counties.coinsABag = coins;
        return true;
    }

    public int commute(int county, int bags) {
        if (!isCounty(county) || !isWithin(bags, 1, counties.leftToCommute(county))) {
            return NONE;
        }
        return counties.payFor(county, bags);
    }

    public int county(int county, int what) {
        if (!isCounty(county)) {
            return NO_SUCH_COUNTY;
        }
        switch (what) {
            case 0:
                return counties.allotted[county];
            case 1:
                return counties.commuted[county];
            case 2:
                return counties.paid[county];
            case 3:
                return fleet.bagsComeOf(county);
            case 4:
                return counties.leftToCommute(county) - fleet.bagsComeOf(county);
            default:
                return NO_SUCH_COUNTY;
        }
    }

    public boolean due(int squadron, int day) {
        Squadron found = fleet.find(squadron);
        if (found == null || !isDay(day)) {
            return false;
        }
        found.dueDay = day;
        return true;
    }

    public int least(int set, int lock, int k) {
        if (!fleet.hasAll(set) || Integer.bitCount(set) > Schedule.MOST || !canal.hasLock(lock)) {
            return NONE;
        }
        schedule.clear();
        for (int i = 0; i < fleet.size; i++) {
            Squadron each = fleet.find(i);
            if (each != null && (set >> i & 1) == 1) {
                schedule.add(i, daysToPass(each.boats, canal.lockBoats[lock]), each.dueDay);
            }
        }
        schedule.weigh(today);
        return k == NONE ? schedule.leastSum() : schedule.inPlace(k);
    }

    public int count(int what) {
        switch (what) {
            case 0:
                return today;
            case 1:
                return fleet.size;
            case 2:
                return canal.lakes;
            case 3:
                return code.size;
            case 4:
                return tape.size;
            case 5:
                return fleet.come();
            case 6:
                return canal.reaches;
            default:
                return NONE;
        }
    }

    private void workLock(int lock) {
        int boatsLeft = canal.boatsOf(lock);
        boolean someoneStays = false;
        for (int place = 0; place < fleet.size; place++) {
            Squadron next = fleet.inLine(place);
            if (next == null || next.reach != lock) {
                continue;
            }
            int bar = whatBars(next, boatsLeft, someoneStays);
            if (bar == 0) {
                boatsLeft -= next.boats;
                canal.letThrough(lock, next.boats);
                next.moveUp(today);
            } else {
                someoneStays = true;
                next.stay(bar);
            }
        }
    }

    /** The cause, 0 where nothing bars. */
    private int whatBars(Squadron next, int boatsLeft, boolean someoneStays) {
        if (canal.isIcy(next.reach, today) || canal.isIcy(next.reach + 1, today)) {
            return ICE;
        }
        if (canal.isTooLow(next.reach + 1, next.boats)) {
            return LOW_WATER;
        }
        if (boatsLeft < next.boats) {
            return LOCK_USED_UP;
        }
        return someoneStays && !next.hasLeave ? BEHIND_ANOTHER : 0;
    }

    private static boolean isWithin(int value, int least, int most) {
        return value >= least && value <= most;
    }

    private static boolean isDay(int day) {
        return isWithin(day, 0, LAST_DAY);
    }

    private static boolean isCounty(int county) {
        return isWithin(county, 0, LAST_COUNTY);
    }

    private static boolean isPlace(int place, int length) {
        return place >= 0 && place < length;
    }

    private static int daysToPass(int boats, int boatsADay) {
        return boatsADay < 1 ? 0 : (boats + boatsADay - 1) / boatsADay;
    }

    /** The reaches with their water, the locks between them, the lakes beside them, the ice. */
    private static final class Canal {
        static final int MOST_LAKES = 4;
        static final int WATER_AT_FIRST = 100;
        static final int LOCK_BOATS_AT_FIRST = 20;
        static final int WATER_TO_SPARE = 20;

        final int reaches;
        final int[] water;
        final int[] lockBoats;
        final int[] lakeReach;
        final int[] lakeStore;
        final int[] lakeGives;
        int lakes;
        int iceDay;
        int iceReach;

        Canal(int reaches) {
            this.reaches = reaches;
            water = new int[MOST_REACHES];
            lockBoats = new int[MOST_REACHES];
            for (int i = 0; i < MOST_REACHES; i++) {
                water[i] = WATER_AT_FIRST;
                lockBoats[i] = LOCK_BOATS_AT_FIRST;
            }
            lakeReach = new int[MOST_LAKES];
            lakeStore = new int[MOST_LAKES];
            lakeGives = new int[MOST_LAKES];
            lakes = 0;
            // Ice that has not been told begins on a day that never comes.
            iceDay = LAST_DAY + 1;
            iceReach = 0;
        }

        boolean hasReach(int reach) {
            return isPlace(reach, reaches);
        }

        boolean hasLock(int lock) {
            return isPlace(lock, reaches - 1);
        }

        boolean hasLake(int lake) {
            return isPlace(lake, lakes);
        }

        int addLake(int reach, int store) {
            if (lakes >= MOST_LAKES) {
                return NONE;
            }
            lakeReach[lakes] = reach;
            lakeStore[lakes] = store;
            lakes++;
            return lakes - 1;
        }

        boolean isIcy(int reach, int day) {
            return day >= iceDay && reach >= iceReach;
        }

        boolean isTooLow(int reach, int boats) {
            return !hasReach(reach) || water[reach] < WATER_TO_SPARE + boats;
        }

        int boatsOf(int lock) {
            return hasLock(lock) ? lockBoats[lock] : 0;
        }

        void takeFromLakes() {
            for (int i = 0; i < lakes; i++) {
                int reach = lakeReach[i];
                if (hasReach(reach)) {
                    int given = Math.min(lakeGives[i], lakeStore[i]);
                    given = Math.min(given, MOST_WATER - water[reach]);
                    lakeStore[i] -= given;
                    water[reach] += given;
                }
            }
        }

        void letThrough(int lock, int boats) {
            if (hasLock(lock)) {
                water[lock + 1] -= boats;
                water[lock] = Math.min(MOST_WATER, water[lock] + boats);
            }
        }
    }

    /** One squadron on its way from reach 0 to the capital. */
    private static final class Squadron {
        static final int DAYS_FROM = 10;
        static final int CAUSES_FROM = 31;

        final int county;
        final int boats;
        final int bags;
        final int goods;
        final int[] daysIn;
        final int[] daysBy;
        int reach;
        int cameOn;
        int lost;
        int why;
        int dueDay;
        boolean hasLeave;

        Squadron(int reaches, int county, int boats, int bags, int goods) {
            this.county = county;
            this.boats = boats;
            this.bags = bags;
            this.goods = goods;
            daysIn = new int[reaches];
            daysBy = new int[CAUSES];
            reach = 0;
            cameOn = NONE;
            lost = 0;
            why = 0;
            dueDay = LAST_DAY;
            hasLeave = false;
        }

        boolean hasCome() {
            return cameOn != NONE;
        }

        int bagsLeft() {
            return bags - lost;
        }

        void beginDay() {
            why = 0;
            if (!hasCome() && isPlace(reach, daysIn.length)) {
                daysIn[reach]++;
            }
        }

        void moveUp(int day) {
            reach++;
            if (reach >= daysIn.length - 1) {
                cameOn = day;
            }
        }

        void stay(int cause) {
            why = cause;
            if (isPlace(cause - 1, CAUSES)) {
                daysBy[cause - 1]++;
            }
        }

        int tell(int what) {
            switch (what) {
                case 0:
                    return reach;
                case 1:
                    return cameOn;
                case 2:
                    return bagsLeft();
                case 3:
                    return why;
                case 4:
                    return isPlace(reach, daysIn.length) ? daysIn[reach] : NONE;
                case 5:
                    return hasLeave ? 1 : 0;
                default:
                    return tellDays(what);
            }
        }

        private int tellDays(int what) {
            if (isPlace(what - DAYS_FROM, daysIn.length)) {
                return daysIn[what - DAYS_FROM];
            }
            if (isPlace(what - CAUSES_FROM, CAUSES)) {
                return daysBy[what - CAUSES_FROM];
            }
            return NONE;
        }

        int judgedBy(Statute statute, int what) {
            switch (what) {
                case 0:
                    return daysOver(statute);
                case 1:
                    return bagsShort(statute);
                case 2:
                    return goodsOver(statute);
                case 3:
                    return statute.fine
                            * (daysOver(statute) + bagsShort(statute) + goodsOver(statute));
                default:
                    return NONE;
            }
        }

        private int daysOver(Statute statute) {
            int over = 0;
            for (int i = 0; i < daysIn.length - 1; i++) {
                over += Math.max(0, daysIn[i] - statute.allowedIn(i));
            }
            return over;
        }

        private int bagsShort(Statute statute) {
            return Math.max(0, lost - bags * statute.loss / 1000);
        }

        private int goodsOver(Statute statute) {
            return Math.max(0, goods - statute.goodsABoat * boats);
        }
    }

    /** All squadrons by their numbers, and the line in which they stand on a day. */
    private static final class Fleet {
        static final int MOST = 12;

        final Squadron[] squadrons;
        final int[] line;
        int size;

        Fleet() {
            squadrons = new Squadron[MOST];
            line = new int[MOST];
            size = 0;
        }

        boolean isFull() {
            return size >= MOST;
        }

        int add(Squadron squadron) {
            if (isFull()) {
                return NONE;
            }
            squadrons[size] = squadron;
            size++;
            return size - 1;
        }

        /** Null where there is none such. */
        Squadron find(int number) {
            return isPlace(number, size) ? squadrons[number] : null;
        }

        boolean hasAll(int set) {
            return set >>> size == 0;
        }

        Squadron inLine(int place) {
            return isPlace(place, MOST) ? find(line[place]) : null;
        }

        void beginDay() {
            for (int i = 0; i < size; i++) {
                Squadron each = find(i);
                if (each != null) {
                    each.beginDay();
                }
            }
        }

        void lineUp(int order) {
            for (int i = 0; i < size; i++) {
                int place = i;
                while (place > 0 && isAhead(i, line[place - 1], order)) {
                    line[place] = line[place - 1];
                    place--;
                }
                line[place] = i;
            }
        }

        /** Of two that are alike the one lined up earlier, by its lesser number, stays ahead. */
        private boolean isAhead(int later, int earlier, int order) {
            Squadron one = find(later);
            Squadron other = find(earlier);
            if (one == null || other == null) {
                return false;
            }
            if (order == BY_COUNTY) {
                return one.county < other.county;
            }
            return order == BY_BOATS && one.boats > other.boats;
        }

        int boatsIn(int reach) {
            int sum = 0;
            for (int i = 0; i < size; i++) {
                Squadron each = find(i);
                if (each != null && each.reach == reach) {
                    sum += each.boats;
                }
            }
            return sum;
        }

        int bagsComeOf(int county) {
            int sum = 0;
            for (int i = 0; i < size; i++) {
                Squadron each = find(i);
                if (each != null && each.county == county && each.hasCome()) {
                    sum += each.bagsLeft();
                }
            }
            return sum;
        }

        int come() {
            int sum = 0;
            for (int i = 0; i < size; i++) {
                Squadron each = find(i);
                if (each != null && each.hasCome()) {
                    sum++;
                }
            }
            return sum;
        }
    }

    /** The bytes fed and not yet made a statute. */
    private static final class Tape {
        static final int MOST_BYTES = 400;
        static final int BYTES_A_FEED = 20;

        final byte[] bytes;
        int size;

        Tape() {
            bytes = new byte[MOST_BYTES];
            size = 0;
        }

        boolean hasRoom() {
            return size + BYTES_A_FEED <= MOST_BYTES;
        }

        void append(int number) {
            for (int shift = 24; shift >= 0 && size < MOST_BYTES; shift -= 8) {
                bytes[size] = (byte) (number >> shift);
                size++;
            }
        }

        /** Bytes of 128 on come out below 0: no text has them. */
        int at(int place) {
            return place >= 0 && place < size ? bytes[place] : NONE;
        }
    }

    /** One statute: what it doesn't tell stands as it does where there is none. */
    private static final class Statute {
        static final int ALLOWED_FROM = 10;
        static final int DAYS_ALLOWED_AT_FIRST = 3;

        final int number;
        final int fromDay;
        final int[] allowed;
        int order;
        int loss;
        int goodsABoat;
        int fine;

        Statute(int reaches, int number, int fromDay) {
            this.number = number;
            this.fromDay = fromDay;
            allowed = new int[reaches];
            for (int i = 0; i < reaches; i++) {
                allowed[i] = DAYS_ALLOWED_AT_FIRST;
            }
            order = BY_NUMBERS;
            loss = 20;
            goodsABoat = 2;
            fine = 1;
        }

        /** A text may name reaches that this canal lacks. */
        void allow(int reach, int days) {
            if (isPlace(reach, allowed.length)) {
                allowed[reach] = days;
            }
        }

        int allowedIn(int reach) {
            return isPlace(reach, allowed.length) ? allowed[reach] : NONE;
        }

        int tell(int what) {
            switch (what) {
                case 0:
                    return order;
                case 1:
                    return loss;
                case 2:
                    return goodsABoat;
                case 3:
                    return fine;
                case 4:
                    return number;
                default:
                    return allowedIn(what - ALLOWED_FROM);
            }
        }
    }

    /** The statutes taken, in the order of their days. */
    private static final class Code {
        static final int MOST = 10;

        final Statute[] taken;
        final Statute unwritten;
        int size;

        Code(int reaches) {
            taken = new Statute[MOST];
            unwritten = new Statute(reaches, NONE, 0);
            size = 0;
        }

        boolean isFull() {
            return size >= MOST;
        }

        int take(Statute statute) {
            if (isFull()) {
                return NONE;
            }
            taken[size] = statute;
            size++;
            return size - 1;
        }

        Statute inForce(int day) {
            for (int i = size - 1; i >= 0; i--) {
                Statute each = taken[i];
                if (each != null && each.fromDay <= day) {
                    return each;
                }
            }
            return unwritten;
        }
    }

    /** Reads a statute's text from the tape, token by token. */
    private static final class Reader {
        static final int MOST_STATEMENTS = 16;
        static final int MOST_DIGITS = 3;

        static final int END = 0;
        static final int WORD = 1;
        static final int DIGITS = 2;
        static final int SEMICOLON = 3;
        static final int STRAY = 4;

        final Tape tape;
        int length;
        int start;
        int end;
        int kind;

        Reader(Tape tape) {
            this.tape = tape;
            length = 0;
            start = 0;
            end = 0;
            kind = END;
        }

        /** Answers the fault's place, NONE where the text has none. */
        int read(int bytes, Statute into) {
            length = bytes;
            end = 0;
            for (int statements = 0; statements < MOST_STATEMENTS; statements++) {
                step();
                if (kind == END) {
                    return NONE;
                }
                if (!takeStatement(into)) {
                    return start;
                }
            }
            step();
            return kind == END ? NONE : start;
        }

        /** False as soon as a token doesn't go on with the text: it's the one at start. */
        private boolean takeStatement(Statute into) {
            if (isWord("order")) {
                return takeOrder(into) && takeSemicolon();
            }
            if (isWord("days")) {
                return takeDays(into) && takeSemicolon();
            }
            if (isWord("loss")) {
                into.loss = takeNumber();
                return into.loss != NONE && takeSemicolon();
            }
            if (isWord("private")) {
                into.goodsABoat = takeNumber();
                return into.goodsABoat != NONE && takeSemicolon();
            }
            if (isWord("fine")) {
                into.fine = takeNumber();
                return into.fine != NONE && takeSemicolon();
            }
            return false;
        }

        private boolean takeOrder(Statute into) {
            step();
            if (isWord("county")) {
                into.order = BY_COUNTY;
            } else if (isWord("boats")) {
                into.order = BY_BOATS;
            } else if (isWord("told")) {
                into.order = BY_NUMBERS;
            } else {
                return false;
            }
            return true;
        }

        private boolean takeDays(Statute into) {
            int reach = takeNumber();
            if (reach == NONE) {
                return false;
            }
            step();
            if (!isWord("is")) {
                return false;
            }
            int days = takeNumber();
            if (days == NONE) {
                return false;
            }
            into.allow(reach, days);
            return true;
        }

        private boolean takeSemicolon() {
            step();
            return kind == SEMICOLON;
        }

        /** NONE where the next token is no number. */
        private int takeNumber() {
            step();
            if (kind != DIGITS || end - start > MOST_DIGITS) {
                return NONE;
            }
            int value = 0;
            for (int i = start; i < end; i++) {
                value = value * 10 + tape.at(i) - '0';
            }
            return value;
        }

        private void step() {
            start = end;
            while (start < length && isBlank(tape.at(start))) {
                start++;
            }
            end = start;
            if (start >= length) {
                kind = END;
                return;
            }
            kind = kindOf(tape.at(start));
            end++;
            if (kind == WORD || kind == DIGITS) {
                while (end < length && kindOf(tape.at(end)) == kind) {
                    end++;
                }
            }
        }

        private boolean isWord(String word) {
            if (kind != WORD || end - start != word.length()) {
                return false;
            }
            for (int i = 0; i < word.length(); i++) {
                if (tape.at(start + i) != word.charAt(i)) {
                    return false;
                }
            }
            return true;
        }

        private static boolean isBlank(int sign) {
            return sign == ' ' || sign == '\n';
        }

        private static int kindOf(int sign) {
            if (sign >= 'a' && sign <= 'z') {
                return WORD;
            }
            if (sign >= '0' && sign <= '9') {
                return DIGITS;
            }
            return sign == ';' ? SEMICOLON : STRAY;
        }
    }

    /** What the counties owe in bags and have paid in coins. */
    private static final class Counties {
        final int[] allotted;
        final int[] commuted;
        final int[] paid;
        int coinsABag;

        Counties() {
            allotted = new int[LAST_COUNTY + 1];
            commuted = new int[LAST_COUNTY + 1];
            paid = new int[LAST_COUNTY + 1];
            coinsABag = 0;
        }

        /** Below 0 where the allotment was lowered later. */
        int leftToCommute(int county) {
            return isCounty(county) ? allotted[county] - commuted[county] : 0;
        }

        int payFor(int county, int bags) {
            int coins = bags * coinsABag;
            if (isCounty(county)) {
                commuted[county] += bags;
                paid[county] += coins;
            }
            return coins;
        }
    }

    /** A few squadrons at a lock: in which order they are least late. */
    private static final class Schedule {
        static final int MOST = 6;

        final int[] numbers;
        final int[] takes;
        final int[] dueDays;
        /** By the set of those who have passed: the least lateness of all the others. */
        final int[] rest;
        int size;
        int firstDay;

        Schedule() {
            numbers = new int[MOST];
            takes = new int[MOST];
            dueDays = new int[MOST];
            rest = new int[1 << MOST];
            size = 0;
            firstDay = 0;
        }

        void clear() {
            size = 0;
        }

        void add(int number, int days, int dueDay) {
            if (size < MOST) {
                numbers[size] = number;
                takes[size] = days;
                dueDays[size] = dueDay;
                size++;
            }
        }

        void weigh(int today) {
            firstDay = today;
            int all = (1 << size) - 1;
            for (int passed = all; passed >= 0; passed--) {
                int next = bestNext(passed);
                rest[passed] = next == NONE ? 0 : restWith(passed, next);
            }
        }

        int leastSum() {
            return rest[0];
        }

        /** The number of the squadron that passes as the k-th, NONE where there is none. */
        int inPlace(int k) {
            if (!isPlace(k, size)) {
                return NONE;
            }
            int passed = 0;
            int next = bestNext(passed);
            for (int place = 0; place < k && next != NONE; place++) {
                passed |= 1 << next;
                next = bestNext(passed);
            }
            return isPlace(next, size) ? numbers[next] : NONE;
        }

        /** The first by number of those with whom the sum becomes least, NONE if all passed. */
        private int bestNext(int passed) {
            int best = NONE;
            for (int i = 0; i < size; i++) {
                boolean waits = (passed >> i & 1) == 0;
                if (waits && (best == NONE || restWith(passed, i) < restWith(passed, best))) {
                    best = i;
                }
            }
            return best;
        }

        private int restWith(int passed, int next) {
            int after = passed | 1 << next;
            if (!isPlace(next, size) || !isPlace(after, rest.length)) {
                return 0;
            }
            return Math.max(0, endOf(after) - dueDays[next]) + rest[after];
        }

        private int endOf(int passed) {
            int end = firstDay;
            for (int i = 0; i < size; i++) {
                if ((passed >> i & 1) == 1) {
                    end += takes[i];
                }
            }
            return end;
        }
    }
}
