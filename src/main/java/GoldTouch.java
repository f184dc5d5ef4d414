/**
 * A king whose touch is gold, and his court through a day of minutes.
 *
 * What texts tell stands in a Court, what deeds change in a Day: so keeping,
 * undoing and foretelling are copies of a Day, and all rows are made once.
 */
public final class GoldTouch {
    public static final int NONE = -1, UNKNOWN = -2, OUTSIDE = -3, NOT = -4, FULL = -5;

    private static final int MOST_THINGS = 8, FLOORS = 3, LAST_MINUTE = 24;
    private static final int DEAD = 0, TOOL = 1, GATE = 2, BEING = 3, FOOD = 4;
    private static final int CLEAN = 0, COLD = 1, HOT = 2;
    private static final int MOST_LETTERS = 160, MOST_CLAUSES = 14;
    private static final int MOST_UNDONE = 8, MOST_KEPT = 2;
    private static final int MOST_IN_ROW = 8, MOST_TASKS = 4, MOST_SEEN = 6;
    private static final int BATH_MINUTES = 12, MOST_SLIPS = 6, TENTHS = 10;
    private static final int TOUCHED_IN_NONE = 24;

    /** The kind over each kind, as as() numbers them; nothing is over THING. */
    private static final int[] KIND_ABOVE = {-1, 0, 1, 1, 0, 1};

    private final Court court = new Court();
    private final Court draft = new Court();
    private final Reader text = new Reader();

    private final Day day = new Day();
    private final Day ahead = new Day();
    private final Day[] past = new Day[MOST_UNDONE];
    private int pastCount;
    private final Day[] kept = new Day[MOST_KEPT];
    private int keptBits;

    private final int[] row = new int[MOST_IN_ROW];
    private int rowCount;
    private int taskBits;
    private final Planner planner = new Planner();

    private final int[] seenThing = new int[MOST_SEEN];
    private final int[] seenMinute = new int[MOST_SEEN];
    private final int[] seenGold = new int[MOST_SEEN];
    private int seenCount;

    public GoldTouch() {
        for (int i = 0; i < MOST_UNDONE; i++) {
            past[i] = new Day();
        }
        for (int k = 0; k < MOST_KEPT; k++) {
            kept[k] = new Day();
        }
    }

    // ---- what is told

    public int write(int letter) {
        if (letter < 0 || letter > 255) {
            return OUTSIDE;
        }
        if (text.length >= MOST_LETTERS) {
            return FULL;
        }
        text.letters[text.length] = letter;
        text.length++;
        return text.length;
    }

    public int erase() {
        int had = text.length;
        text.length = 0;
        return had;
    }

    public int fault() {
        draft.copyFrom(court);
        return text.readOnto(draft);
    }

    public int court() {
        draft.copyFrom(court);
        if (text.readOnto(draft) != NONE) {
            return NOT;
        }
        court.copyFrom(draft);
        text.length = 0;
        startDay();
        return text.clauses;
    }

    public int thing(int thing, int what) {
        if (!isThing(thing)) {
            return UNKNOWN;
        }
        switch (what) {
            case 0: return court.kind[thing];
            case 1: return court.weight[thing];
            case 2: return court.worth[thing];
            case 3: return court.place[thing];
            case 4: return day.goldOf(thing);
            case 5: return hasBit(day.eaten, thing) ? 1 : 0;
            case 6: return day.priceOf(court, thing);
            default: return OUTSIDE;
        }
    }

    public int as(int thing, int kind) {
        if (!isThing(thing)) {
            return UNKNOWN;
        }
        if (kind < 0 || kind >= KIND_ABOVE.length) {
            return OUTSIDE;
        }
        return isUnder(court.kind[thing] + 1, kind) ? day.weighs(court, thing) : NOT;
    }

    public int floor(int floor, int what) {
        if (floor < 0 || floor >= FLOORS) {
            return UNKNOWN;
        }
        switch (what) {
            case 0: return court.bears[floor];
            case 1: return day.loadOf(court, floor);
            case 2: return hasBit(day.broken, floor) ? 1 : 0;
            case 3: return day.toolOf(court, floor, taskBits);
            default: return OUTSIDE;
        }
    }

    public int hand(int minute) {
        if (minute < 0 || minute > 99) {
            return OUTSIDE;
        }
        return handIn(court, day.baths, minute);
    }

    // ---- deeds

    public int touch(int thing) {
        if (!isThing(thing)) {
            return UNKNOWN;
        }
        if (day.isLost(court, thing)) {
            return NOT;
        }
        if (day.minute >= LAST_MINUTE) {
            return FULL;
        }
        return doTouching(thing);
    }

    public int by(int tool, int thing) {
        if (!isThing(tool) || !isThing(thing) || tool == thing) {
            return UNKNOWN;
        }
        if (day.isLost(court, thing) || !servesAsTool(tool, thing)) {
            return NOT;
        }
        if (day.minute >= LAST_MINUTE) {
            return FULL;
        }
        return doTouching(tool);
    }

    public int eat(int food, int tool) {
        boolean byHand = tool == NONE;
        if (!isThing(food) || !byHand && (!isThing(tool) || tool == food)) {
            return UNKNOWN;
        }
        if (court.kind[food] != FOOD || day.isLost(court, food)) {
            return NOT;
        }
        if (!byHand && !servesAsTool(tool, food)) {
            return NOT;
        }
        if (day.minute >= LAST_MINUTE) {
            return FULL;
        }
        return doEating(food, byHand ? food : tool);
    }

    public int bathe() {
        if (day.minute >= LAST_MINUTE) {
            return FULL;
        }
        remember();
        day.baths |= 1 << day.minute;
        day.pass(court);
        return day.minute;
    }

    public int idle() {
        if (day.minute >= LAST_MINUTE) {
            return FULL;
        }
        remember();
        day.pass(court);
        return day.minute;
    }

    public int undo() {
        if (pastCount <= 0) {
            return NOT;
        }
        pastCount--;
        day.copyFrom(past[pastCount]);
        return pastCount;
    }

    public int keep(int k) {
        if (k < 0 || k >= MOST_KEPT) {
            return UNKNOWN;
        }
        kept[k].copyFrom(day);
        keptBits |= 1 << k;
        return day.minute;
    }

    public int back(int k) {
        if (k < 0 || k >= MOST_KEPT) {
            return UNKNOWN;
        }
        if (!hasBit(keptBits, k)) {
            return NOT;
        }
        day.copyFrom(kept[k]);
        pastCount = 0;
        return day.minute;
    }

    // ---- towns, floors

    public int town(int g, int what) {
        if (g < 0 || g > MOST_THINGS || what < 0 || what > 1) {
            return OUTSIDE;
        }
        int free = townThings();
        int most = NONE;
        int best = NONE;
        for (int set = 0; set < 1 << MOST_THINGS; set++) {
            if ((set & ~free) != 0) {
                continue;
            }
            ahead.copyFrom(day);
            ahead.forEver |= set;
            if (ahead.firstOverloaded(court) != NONE || ahead.openGates(court) < g) {
                continue;
            }
            int sum = ahead.prices(court);
            if (sum > most) {
                most = sum;
                best = set;
            }
        }
        return what == 0 ? most : best;
    }

    public int put(int thing) {
        if (!isThing(thing)) {
            return UNKNOWN;
        }
        if (rowCount >= MOST_IN_ROW) {
            return FULL;
        }
        row[rowCount] = thing;
        rowCount++;
        return rowCount;
    }

    public int wipe() {
        int had = rowCount;
        rowCount = 0;
        return had;
    }

    public int goes(int what) {
        if (what < 0 || what > 1) {
            return OUTSIDE;
        }
        ahead.copyFrom(day);
        for (int i = 0; i < rowCount; i++) {
            ahead.forEver |= 1 << row[i];
            int gone = ahead.firstOverloaded(court);
            if (gone != NONE) {
                return what == 0 ? i : gone;
            }
        }
        return NONE;
    }

    // ---- tasks

    public int task(int thing) {
        if (!isThing(thing)) {
            return UNKNOWN;
        }
        if (hasBit(taskBits, thing)) {
            return NOT;
        }
        if (Integer.bitCount(taskBits) >= MOST_TASKS) {
            return FULL;
        }
        taskBits |= 1 << thing;
        return Integer.bitCount(taskBits);
    }

    public int drop() {
        int had = Integer.bitCount(taskBits);
        taskBits = 0;
        return had;
    }

    public int plan(int what) {
        if (what < 0 || what > 2) {
            return OUTSIDE;
        }
        if (taskBits == 0) {
            return what == 0 ? 0 : NONE;
        }
        if (!planner.findWay(court, day, taskBits)) {
            return NONE;
        }
        switch (what) {
            case 0: return planner.cost;
            case 1: return planner.end;
            default: return planner.first;
        }
    }

    // ---- prices, thieves

    public int price(int minute) {
        if (minute < day.minute || minute > LAST_MINUTE) {
            return OUTSIDE;
        }
        ahead.copyFrom(day);
        for (int m = day.minute; m < minute; m++) {
            ahead.pass(court);
        }
        return ahead.prices(court);
    }

    public int sell(int what) {
        if (what < 0 || what > 1) {
            return OUTSIDE;
        }
        ahead.copyFrom(day);
        int when = NONE;
        int most = NONE;
        for (int m = day.minute; m <= LAST_MINUTE; m++) {
            int sum = ahead.prices(court);
            if (sum > most) {
                most = sum;
                when = m;
            }
            ahead.pass(court);
        }
        return what == 0 ? when : most;
    }

    public int thief(int what) {
        if (what < 0 || what > 2) {
            return OUTSIDE;
        }
        int rests = 0;
        int firstThing = NONE;
        int firstFloor = NONE;
        for (int t = 0; t < court.things; t++) {
            for (int f = 0; f < FLOORS; f++) {
                if (!isRest(t, f)) {
                    continue;
                }
                if (rests == 0) {
                    firstThing = t;
                    firstFloor = f;
                }
                rests++;
            }
        }
        switch (what) {
            case 0: return rests;
            case 1: return firstThing;
            default: return firstFloor;
        }
    }

    // ---- what was seen, baths, slips

    public int look(int thing, int minute, int gold) {
        if (!isThing(thing)) {
            return UNKNOWN;
        }
        if (minute < 0 || minute >= day.minute || gold < 0 || gold > 1) {
            return OUTSIDE;
        }
        if (seenCount >= MOST_SEEN) {
            return FULL;
        }
        seenThing[seenCount] = thing;
        seenMinute[seenCount] = minute;
        seenGold[seenCount] = gold;
        seenCount++;
        return seenCount;
    }

    public int forget() {
        int had = seenCount;
        seenCount = 0;
        return had;
    }

    public int fit(int thing) {
        if (!isThing(thing)) {
            return UNKNOWN;
        }
        int bits = 0;
        for (int m = 0; m < day.minute; m++) {
            if (fitsSeen(thing, m, goldEnd(m))) {
                bits |= 1 << m;
            }
        }
        // Touched in none is as if its gold had ended in the minute it began.
        if (fitsSeen(thing, 0, 0)) {
            bits |= 1 << TOUCHED_IN_NONE;
        }
        return bits;
    }

    public int baths(int set, int what) {
        if (set < 0 || set >= 1 << BATH_MINUTES || what < 0 || what > 1) {
            return OUTSIDE;
        }
        int open = set & ~cleanAnyway();
        int fewest = NONE;
        int best = NONE;
        for (int bathed = 0; bathed < 1 << BATH_MINUTES; bathed++) {
            int many = Integer.bitCount(bathed);
            if ((bathed & set) != 0 || fewest != NONE && many >= fewest) {
                continue;
            }
            if ((open & ~cleanBehind(bathed)) == 0) {
                fewest = many;
                best = bathed;
            }
        }
        return what == 0 ? fewest : best;
    }

    public long slips(int q, int n, int k, int part) {
        if (q < 0 || q > TENTHS || n < 0 || n > MOST_SLIPS) {
            return OUTSIDE;
        }
        if (k < 0 || k > MOST_SLIPS || part < 0 || part > 1) {
            return OUTSIDE;
        }
        long above = 0;
        long ways = 1;
        for (int i = 0; i <= n && i <= k; i++) {
            above += ways * power(q, i) * power(TENTHS - q, n - i);
            ways = ways * (n - i) / (i + 1);
        }
        long below = power(TENTHS, n);
        long shared = commonDivisor(above, below);
        long told = part == 0 ? above : below;
        return shared > 0 ? told / shared : told;
    }

    public int count(int what) {
        switch (what) {
            case 0: return court.things;
            case 1: return court.wash;
            case 2: return court.chill;
            case 3: return court.noon;
            case 4: return day.minute;
            case 5: return day.forEver | day.tillNoon;
            case 6: return day.eaten;
            case 7: return day.broken;
            case 8: return rowCount;
            case 9: return Integer.bitCount(taskBits);
            case 10: return seenCount;
            case 11: return pastCount;
            case 12: return text.length;
            default: return OUTSIDE;
        }
    }

    // ---- helpers

    private static boolean hasBit(int bits, int place) {
        return (bits >> place & 1) != 0;
    }

    private boolean isThing(int thing) {
        return thing >= 0 && thing < court.things;
    }

    private static boolean isUnder(int kind, int above) {
        int at = kind;
        for (int step = 0; step < KIND_ABOVE.length && at >= 0 && at < KIND_ABOVE.length; step++) {
            if (at == above) {
                return true;
            }
            at = KIND_ABOVE[at];
        }
        return false;
    }

    /** HAND in a minute, if the minutes of these bits are the ones in which he bathed. */
    private static int handIn(Court court, int baths, int minute) {
        for (int gone = 1; gone <= court.wash + court.chill; gone++) {
            int bath = minute - gone;
            if (bath >= 0 && bath < LAST_MINUTE && hasBit(baths, bath)) {
                return gone <= court.wash ? CLEAN : COLD;
            }
        }
        return HOT;
    }

    private void startDay() {
        day.clear();
        pastCount = 0;
        keptBits = 0;
        rowCount = 0;
        taskBits = 0;
        seenCount = 0;
    }

    private boolean servesAsTool(int tool, int thing) {
        return court.kind[tool] == TOOL && court.place[tool] == court.place[thing]
            && !day.isLost(court, tool);
    }

    private void remember() {
        if (pastCount >= MOST_UNDONE) {
            Day oldest = past[0];
            for (int i = 1; i < MOST_UNDONE; i++) {
                past[i - 1] = past[i];
            }
            past[MOST_UNDONE - 1] = oldest;
            pastCount = MOST_UNDONE - 1;
        }
        past[pastCount].copyFrom(day);
        pastCount++;
    }

    private int doTouching(int touched) {
        remember();
        day.gild(court, touched);
        int gold = day.goldOf(touched);
        day.pass(court);
        return gold;
    }

    private int doEating(int food, int touched) {
        remember();
        day.gild(court, touched);
        boolean eaten = day.goldOf(food) == 0;
        if (eaten) {
            day.eaten |= 1 << food;
        }
        day.pass(court);
        return eaten ? 1 : 0;
    }

    private int townThings() {
        int free = 0;
        for (int t = 0; t < court.things; t++) {
            if (court.kind[t] != BEING && !hasBit(day.forEver, t) && !day.isLost(court, t)) {
                free |= 1 << t;
            }
        }
        return free;
    }

    private int thiefGain(int thing, int guarded) {
        if (hasBit(day.eaten, thing) || court.place[thing] == guarded) {
            return 0;
        }
        return Math.max(0, 3 * court.weight[thing] - day.priceOf(court, thing));
    }

    private boolean isRest(int thing, int guarded) {
        int gain = thiefGain(thing, guarded);
        for (int t = 0; t < court.things; t++) {
            if (thiefGain(t, guarded) > gain) {
                return false;
            }
        }
        for (int f = 0; f < FLOORS; f++) {
            if (thiefGain(thing, f) < gain) {
                return false;
            }
        }
        return true;
    }

    /** The minute with which what is touched in this minute is gold no more. */
    private int goldEnd(int minute) {
        int hand = handIn(court, day.baths, minute);
        if (hand == CLEAN) {
            return minute;
        }
        return hand == COLD && minute < court.noon ? court.noon : LAST_MINUTE;
    }

    private boolean fitsSeen(int thing, int goldFrom, int goldEnd) {
        for (int i = 0; i < seenCount; i++) {
            if (seenThing[i] != thing) {
                continue;
            }
            boolean gold = seenMinute[i] >= goldFrom && seenMinute[i] < goldEnd;
            if (gold != (seenGold[i] == 1)) {
                return false;
            }
        }
        return true;
    }

    private int cleanAnyway() {
        int clean = 0;
        for (int i = 0; i < BATH_MINUTES; i++) {
            if (handIn(court, day.baths, day.minute + i) == CLEAN) {
                clean |= 1 << i;
            }
        }
        return clean;
    }

    private int cleanBehind(int bathed) {
        int clean = 0;
        for (int gone = 1; gone <= court.wash; gone++) {
            clean |= bathed << gone;
        }
        return clean;
    }

    private static long power(int base, int times) {
        long product = 1;
        for (int i = 0; i < times; i++) {
            product *= base;
        }
        return product;
    }

    private static long commonDivisor(long a, long b) {
        long larger = a;
        long smaller = b;
        // Each step at least halves one of two numbers below 2^20.
        for (int step = 0; step < 64 && smaller != 0; step++) {
            long left = larger % smaller;
            larger = smaller;
            smaller = left;
        }
        return larger;
    }

    /** What texts tell. */
    private static final class Court {
        final int[] kind = new int[MOST_THINGS];
        final int[] weight = new int[MOST_THINGS];
        final int[] worth = new int[MOST_THINGS];
        final int[] place = new int[MOST_THINGS];
        final int[] bears = {99, 99, 99};
        int things;
        int wash = 3;
        int chill = 2;
        int noon = 12;

        void reset() {
            things = 0;
            wash = 3;
            chill = 2;
            noon = 12;
            for (int f = 0; f < FLOORS; f++) {
                bears[f] = 99;
            }
        }

        void copyFrom(Court other) {
            things = other.things;
            wash = other.wash;
            chill = other.chill;
            noon = other.noon;
            for (int f = 0; f < FLOORS; f++) {
                bears[f] = other.bears[f];
            }
            for (int t = 0; t < MOST_THINGS; t++) {
                kind[t] = other.kind[t];
                weight[t] = other.weight[t];
                worth[t] = other.worth[t];
                place[t] = other.place[t];
            }
        }

        void addThing(int itsKind, int itsWeight, int itsWorth, int itsFloor) {
            if (things >= MOST_THINGS) {
                return;
            }
            kind[things] = itsKind;
            weight[things] = itsWeight;
            worth[things] = itsWorth;
            place[things] = itsFloor;
            things++;
        }
    }

    /** What deeds change; things, floors and minutes are bits. */
    private static final class Day {
        int minute;
        int baths;
        int tillNoon;
        int forEver;
        int eaten;
        int broken;

        void clear() {
            minute = 0;
            baths = 0;
            tillNoon = 0;
            forEver = 0;
            eaten = 0;
            broken = 0;
        }

        void copyFrom(Day other) {
            minute = other.minute;
            baths = other.baths;
            tillNoon = other.tillNoon;
            forEver = other.forEver;
            eaten = other.eaten;
            broken = other.broken;
        }

        int goldOf(int thing) {
            if (hasBit(forEver, thing)) {
                return 2;
            }
            return hasBit(tillNoon, thing) ? 1 : 0;
        }

        boolean isLost(Court court, int thing) {
            return hasBit(eaten, thing) || hasBit(broken, court.place[thing]);
        }

        int weighs(Court court, int thing) {
            if (hasBit(eaten, thing)) {
                return 0;
            }
            return goldOf(thing) != 0 ? 3 * court.weight[thing] : court.weight[thing];
        }

        int loadOf(Court court, int floor) {
            int load = 0;
            for (int t = 0; t < court.things; t++) {
                if (court.place[t] == floor) {
                    load += weighs(court, t);
                }
            }
            return load;
        }

        /** The first floor that is not broken and has more load than it bears. */
        int firstOverloaded(Court court) {
            for (int f = 0; f < FLOORS; f++) {
                if (!hasBit(broken, f) && loadOf(court, f) > court.bears[f]) {
                    return f;
                }
            }
            return NONE;
        }

        int priceOf(Court court, int thing) {
            if (isLost(court, thing)) {
                return 0;
            }
            return goldOf(thing) != 0 ? 3 * court.weight[thing] : court.worth[thing];
        }

        int prices(Court court) {
            int sum = 0;
            for (int t = 0; t < court.things; t++) {
                sum += priceOf(court, t);
            }
            return sum;
        }

        int openGates(Court court) {
            int open = 0;
            for (int t = 0; t < court.things; t++) {
                if (court.kind[t] == GATE && goldOf(t) == 0 && !isLost(court, t)) {
                    open++;
                }
            }
            return open;
        }

        /** THE TOOL of a floor, of the tools that are none of the tasks. */
        int toolOf(Court court, int floor, int tasks) {
            int best = NONE;
            int least = 0;
            for (int t = 0; t < court.things; t++) {
                if (court.kind[t] != TOOL || court.place[t] != floor
                        || hasBit(tasks, t) || isLost(court, t)) {
                    continue;
                }
                // A tool that is gold for ever is ahead of any weight, which is 1 at least.
                int rank = hasBit(forEver, t) ? 0 : court.weight[t];
                if (best == NONE || rank < least) {
                    best = t;
                    least = rank;
                }
            }
            return best;
        }

        void gild(Court court, int thing) {
            int hand = handIn(court, baths, minute);
            if (hand == CLEAN || hasBit(forEver, thing)) {
                return;
            }
            if (hand == COLD && minute < court.noon) {
                tillNoon |= 1 << thing;
                return;
            }
            tillNoon &= ~(1 << thing);
            forEver |= 1 << thing;
        }

        /** All that comes behind a deed. */
        void pass(Court court) {
            for (int f = 0; f < FLOORS; f++) {
                if (loadOf(court, f) > court.bears[f]) {
                    broken |= 1 << f;
                }
            }
            minute++;
            if (minute == court.noon) {
                tillNoon = 0;
            }
        }
    }

    /** THE TEXT, and the reading of it up to its first fault. */
    private static final class Reader {
        private static final int WORDS = 11, BEARS = 5, WASH = 6, CHILL = 7, NOON = 8, COURT = 9, BARE = 10;

        /** How many numbers each word has; the first five words are the kinds, in their order. */
        private static final int[] NUMBERS = {3, 3, 3, 3, 3, 2, 1, 1, 1, 0, 0};

        final int[] letters = new int[MOST_LETTERS];
        int length;
        int clauses;
        private int tokenStart;
        private int tokenEnd;
        private final int[] numbers = new int[3];

        /** Does the clauses up to the first fault: its place, or NONE. */
        int readOnto(Court court) {
            clauses = 0;
            tokenEnd = 0;
            for (int i = 0; i < MOST_CLAUSES; i++) {
                nextToken();
                if (!readClause(court)) {
                    return tokenStart;
                }
                clauses++;
                nextToken();
                if (tokenStart >= length) {
                    return NONE;
                }
                if (letterAt(tokenStart) != ';') {
                    return tokenStart;
                }
            }
            // No clause can come behind the last ';', so that is what cannot stand there.
            return tokenStart;
        }

        private boolean readClause(Court court) {
            int word = readWord();
            if (word == NONE || word <= FOOD && court.things >= MOST_THINGS) {
                return false;
            }
            for (int i = 0; i < NUMBERS[word] && i < numbers.length; i++) {
                nextToken();
                int number = readNumber();
                if (number < leastOf(word, i) || number > mostOf(word, i)) {
                    return false;
                }
                numbers[i] = number;
            }
            doClause(court, word);
            return true;
        }

        private void doClause(Court court, int word) {
            switch (word) {
                case BEARS: setBears(court, numbers[0], numbers[1]); break;
                case WASH: court.wash = numbers[0]; break;
                case CHILL: court.chill = numbers[0]; break;
                case NOON: court.noon = numbers[0]; break;
                case COURT: court.reset(); break;
                case BARE: court.things = 0; break;
                default: court.addThing(word, numbers[0], numbers[1], numbers[2]); break;
            }
        }

        private static void setBears(Court court, int floor, int bears) {
            if (floor >= 0 && floor < FLOORS) {
                court.bears[floor] = bears;
            }
        }

        private static int leastOf(int word, int place) {
            return word <= FOOD && place == 0 ? 1 : 0;
        }

        private static int mostOf(int word, int place) {
            switch (word) {
                case BEARS: return place == 0 ? FLOORS - 1 : 99;
                case WASH: return 4;
                case CHILL: return 4;
                case NOON: return 24;
                default: return place == 0 ? 20 : place == 1 ? 40 : FLOORS - 1;
            }
        }

        private static String wordText(int word) {
            switch (word) {
                case DEAD: return "dead";
                case TOOL: return "tool";
                case GATE: return "gate";
                case BEING: return "being";
                case FOOD: return "food";
                case BEARS: return "bears";
                case WASH: return "wash";
                case CHILL: return "chill";
                case NOON: return "noon";
                case COURT: return "court";
                default: return "bare";
            }
        }

        private int readWord() {
            for (int word = 0; word < WORDS; word++) {
                if (isToken(wordText(word))) {
                    return word;
                }
            }
            return NONE;
        }

        private boolean isToken(String word) {
            if (tokenEnd - tokenStart != word.length()) {
                return false;
            }
            for (int i = 0; i < word.length(); i++) {
                if (letterAt(tokenStart + i) != word.charAt(i)) {
                    return false;
                }
            }
            return true;
        }

        /** The token's number, NONE if it is none of 1 or 2 digits. */
        private int readNumber() {
            if (tokenStart >= tokenEnd || tokenEnd - tokenStart > 2) {
                return NONE;
            }
            int number = 0;
            for (int i = tokenStart; i < tokenEnd; i++) {
                if (!isDigit(letterAt(i))) {
                    return NONE;
                }
                number = number * 10 + letterAt(i) - '0';
            }
            return number;
        }

        /** At the end of the text the token is an empty one. */
        private void nextToken() {
            tokenStart = tokenEnd;
            while (tokenStart < length && letterAt(tokenStart) == ' ') {
                tokenStart++;
            }
            tokenEnd = tokenStart;
            if (tokenEnd >= length) {
                return;
            }
            int begin = letterAt(tokenStart);
            tokenEnd++;
            if (!isSmall(begin) && !isDigit(begin)) {
                return;
            }
            while (tokenEnd < length && isSmall(letterAt(tokenEnd)) == isSmall(begin)
                    && isDigit(letterAt(tokenEnd)) == isDigit(begin)) {
                tokenEnd++;
            }
        }

        private int letterAt(int place) {
            return place >= 0 && place < length && place < letters.length ? letters[place] : NONE;
        }

        private static boolean isSmall(int letter) {
            return letter >= 'a' && letter <= 'z';
        }

        private static boolean isDigit(int letter) {
            return letter >= '0' && letter <= '9';
        }
    }

    /**
     * PLAN. No best way has a minute of rest, or a bath right behind a bath:
     * without it all that follows comes a minute sooner, by a hand no worse.
     * And a clean hand needs no tool: the tool costs as much, and is the larger deed.
     */
    private static final class Planner {
        private static final int BATHES = 2, BY_HAND = 10, BY_TOOL = 20, NO_WAY = 1 << 20;

        int cost;
        int end;
        int first;
        private int best;
        private final int[] tools = new int[FLOORS];

        boolean findWay(Court court, Day day, int tasks) {
            best = NO_WAY;
            for (int t = 0; t < court.things; t++) {
                if (hasBit(tasks, t) && day.isLost(court, t)) {
                    return false;
                }
            }
            for (int f = 0; f < FLOORS; f++) {
                tools[f] = day.toolOf(court, f, tasks);
            }
            search(court, day.minute, day.baths, tasks, day.forEver, 0, NONE);
            return best != NO_WAY;
        }

        /** Deeds are tried from the least on, and only a better way is taken. */
        private void search(Court court, int minute, int baths, int left, int gold, int spent, int deed) {
            // The soonest end is if a task is handled in each minute from here on.
            if (rankOf(spent, minute + Integer.bitCount(left) - 1) >= best) {
                return;
            }
            if (left == 0) {
                take(spent, minute - 1, deed);
                return;
            }
            if (minute >= LAST_MINUTE) {
                return;
            }
            int next = minute + 1;
            if (minute == 0 || !hasBit(baths, minute - 1)) {
                search(court, next, baths | 1 << minute, left, gold, spent, firstOf(deed, BATHES));
            }
            int hand = handIn(court, baths, minute);
            for (int t = 0; t < court.things; t++) {
                if (!hasBit(left, t)) {
                    continue;
                }
                int later = left & ~(1 << t);
                int tool = tools[court.place[t]];
                if (hand == CLEAN) {
                    search(court, next, baths, later, gold, spent, firstOf(deed, BY_HAND + t));
                } else if (tool != NONE && (hasBit(gold, tool) || hand == COLD && minute < court.noon)) {
                    search(court, next, baths, later, gold, spent, firstOf(deed, BY_TOOL + t));
                } else if (tool != NONE) {
                    search(court, next, baths, later, gold | 1 << tool, spent + court.weight[tool],
                        firstOf(deed, BY_TOOL + t));
                }
            }
        }

        private static int firstOf(int deed, int next) {
            return deed == NONE ? next : deed;
        }

        private static int rankOf(int spent, int lastMinute) {
            return spent * 64 + lastMinute;
        }

        private void take(int spent, int lastMinute, int deed) {
            best = rankOf(spent, lastMinute);
            cost = spent;
            end = lastMinute;
            first = deed;
        }
    }
}
