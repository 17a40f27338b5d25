import java.util.Arrays;

public final class KidGloves {
    public static final int NONE = -1, UNKNOWN = -101, OUTSIDE = -102, STATE = -103, FULL = -104;

    private static final int GLOVE = 0, KID = 1, DOE = 2, OLD = 3, LAMB = 4;
    private static final int FEWEST_GLOVES = 2, MOST_GLOVES = 6, MOST_WEARERS = 3;
    private static final int MOST_LETTERS = 26, FIRST_CODE = 32, LAST_CODE = 126;
    private static final int MOST_HOURS = 999, MOST_AGE = 20, MOST_SEEN = 8, MOST_DRESSED = 20;
    private static final int DIGITS = 10, TOP_DIGIT = 9;
    private static final int QUARREL_GAP = 4, QUARREL_MOOD = 3, HANDS = 2;
    private static final int MOST_STILL = 8, LEAST_BUTTING = 15;
    private static final int SITS_STILL = 0, BUTTS = 1, NEITHER = 2;
    // The other WISHES are numbered as what a WEARER does: SITS_STILL, BUTTS.
    private static final int NO_WISH = 2;
    private static final int SETS = 1 << MOST_GLOVES;
    private static final int MOST_MOOD_HOURS = 40, MOST_ODDS_HOURS = 8, TENTHS = 10, MOST_TEAS = 60;
    // What can be asked: dress() and boxes() tell of GLOVE 0 by 10, glove() and wearer() go to 8, count() to 12.
    private static final int ASKS_OF_FIRST = 10, LAST_OF_ONE = 8, LAST_COUNT = 12;

    private final Page page = new Page();
    private final Shop now = new Shop();
    private final Shop kept = new Shop();
    private final Shop dreamt = new Shop();
    private final Dressing dressing = new Dressing();
    private final Packing packing = new Packing();
    private final Chances chances = new Chances();
    private final Draws draws = new Draws();
    private boolean imageKept;
    private int timesRead;
    private int timesDressed;

    public KidGloves() {
    }

    // ---- the shop

    public int letter(int code) {
        if (!within(code, FIRST_CODE, LAST_CODE)) {
            return OUTSIDE;
        }
        return page.add(code) ? page.length : FULL;
    }

    public int blank() {
        int had = page.length;
        page.length = 0;
        return had;
    }

    public int fault() {
        return page.firstFault();
    }

    public int shop() {
        if (!page.isShop()) {
            return STATE;
        }
        page.readInto(now);
        page.length = 0;
        imageKept = false;
        timesRead++;
        return now.gloves;
    }

    // ---- gloves, wearers

    public int glove(int glove, int what) {
        if (!now.hasGlove(glove)) {
            return UNKNOWN;
        }
        switch (what) {
            case 0: return at(now.kinds, glove);
            case 1: return at(now.marks, glove);
            case 2: return at(now.ages, glove);
            case 3: return now.temper(glove, 0);
            case 4: return at(now.holders, glove);
            case 5: return at(now.sides, glove);
            case 6: return now.quarrels(glove);
            case 7: return now.possibleMarks(glove);
            case 8: return now.bestFeel(glove);
            default: return OUTSIDE;
        }
    }

    public int as(int glove, int kind) {
        if (!now.hasGlove(glove)) {
            return UNKNOWN;
        }
        if (!within(kind, GLOVE, LAMB)) {
            return OUTSIDE;
        }
        return isOfKind(at(now.kinds, glove), kind) ? glove : NONE;
    }

    public int wearer(int wearer, int what) {
        if (!now.hasWearer(wearer)) {
            return UNKNOWN;
        }
        switch (what) {
            case 0: return at(now.nerves, wearer);
            case 1: return now.moodOf(wearer, 0);
            case 2: return now.gloveOn(wearer, 0);
            case 3: return now.gloveOn(wearer, 1);
            case 4: return doing(now.moodOf(wearer, 0));
            case 5: return at(now.wishes, wearer);
            case 6: return now.pleases(wearer, now.moodOf(wearer, 0)) ? 1 : 0;
            case 7: return now.changesTo(wearer, now.stillSet(wearer));
            case 8: return now.stillSet(wearer);
            default: return OUTSIDE;
        }
    }

    // ---- what is done

    public int wear(int glove, int wearer, int hand) {
        if (!now.hasGlove(glove) || !now.hasWearer(wearer)) {
            return UNKNOWN;
        }
        if (!within(hand, 0, HANDS - 1)) {
            return OUTSIDE;
        }
        if (at(now.holders, glove) != NONE || now.gloveOn(wearer, hand) != NONE) {
            return STATE;
        }
        now.putOn(glove, wearer, hand);
        return now.moodOf(wearer, 0);
    }

    public int off(int glove) {
        if (!now.hasGlove(glove)) {
            return UNKNOWN;
        }
        int holder = at(now.holders, glove);
        if (holder == NONE) {
            return STATE;
        }
        now.takeOff(glove);
        return holder;
    }

    public int hour() {
        if (!hasShop()) {
            return STATE;
        }
        if (now.hours >= MOST_HOURS) {
            return FULL;
        }
        now.passHour();
        return now.hours;
    }

    public int book(int glove, int mark) {
        if (!now.hasGlove(glove)) {
            return UNKNOWN;
        }
        if (!within(mark, 0, TOP_DIGIT)) {
            return OUTSIDE;
        }
        int had = at(now.marks, glove);
        put(now.marks, glove, mark);
        return had;
    }

    public int wish(int wearer, int nerve, int wish) {
        if (!now.hasWearer(wearer)) {
            return UNKNOWN;
        }
        if (!within(nerve, 0, TOP_DIGIT) || !within(wish, 0, NO_WISH)) {
            return OUTSIDE;
        }
        int had = at(now.wishes, wearer);
        put(now.nerves, wearer, nerve);
        put(now.wishes, wearer, wish);
        return had;
    }

    // ---- what would be

    public int mood(int wearer, int hours) {
        if (!now.hasWearer(wearer)) {
            return UNKNOWN;
        }
        if (!within(hours, 0, MOST_MOOD_HOURS)) {
            return OUTSIDE;
        }
        return now.moodOf(wearer, hours);
    }

    public int dress(int what) {
        if (!within(what, 0, 1) && !asksOfGlove(what)) {
            return OUTSIDE;
        }
        if (!hasShop() || timesDressed >= MOST_DRESSED) {
            return STATE;
        }
        timesDressed++;
        dressing.find(now);
        switch (what) {
            case 0: return dressing.mostPleased;
            case 1: return dressing.fewestGiven;
            default: return at(dressing.best, what - ASKS_OF_FIRST);
        }
    }

    public int boxes(int what) {
        if (what != 0 && !asksOfGlove(what)) {
            return OUTSIDE;
        }
        if (!hasShop()) {
            return STATE;
        }
        packing.find(now);
        return what == 0 ? packing.fewest : at(packing.best, what - ASKS_OF_FIRST);
    }

    public int odds(int wearer, int hours, int tenths, int what) {
        if (!now.hasWearer(wearer)) {
            return UNKNOWN;
        }
        if (!within(hours, 1, MOST_ODDS_HOURS) || !within(tenths, 0, TENTHS) || !within(what, 0, 1)) {
            return OUTSIDE;
        }
        chances.spread(hours, tenths);
        int above = 0;
        for (int aged = 0; aged <= hours; aged++) {
            if (doing(now.moodOf(wearer, aged)) == BUTTS) {
                above += at(chances.ways, aged);
            }
        }
        int below = chances.all;
        int common = commonDivisor(above, below);
        int told = what == 0 ? above : below;
        return common > 0 ? told / common : told;
    }

    // ---- what is seen

    public int see(int glove, int more, int temper) {
        if (!now.hasGlove(glove)) {
            return UNKNOWN;
        }
        if (!within(more, 0, TOP_DIGIT) || !within(temper, 0, TOP_DIGIT)) {
            return OUTSIDE;
        }
        return now.addSeen(glove, more, temper) ? now.seen : FULL;
    }

    public int forget() {
        int had = now.seen;
        now.seen = 0;
        return had;
    }

    public int teas(int times, int seed, int what) {
        if (!within(times, 1, MOST_TEAS) || seed < 0 || !within(what, 0, 2)) {
            return OUTSIDE;
        }
        if (!hasShop()) {
            return STATE;
        }
        dreamt.copyFrom(now);
        draws.seed = seed;
        int butted = 0;
        for (int time = 0; time < times; time++) {
            dreamt.changeByDraws(draws);
            dreamt.passHour();
            butted += dreamt.countDoing(BUTTS);
        }
        switch (what) {
            case 0: return butted;
            case 1: return dreamt.countOnHands();
            default: return draws.seed;
        }
    }

    // ---- what is told of all

    public int image() {
        if (!hasShop()) {
            return STATE;
        }
        kept.copyFrom(now);
        imageKept = true;
        return now.hours;
    }

    public int restore() {
        if (!imageKept) {
            return STATE;
        }
        now.copyFrom(kept);
        return now.hours;
    }

    public int count(int what) {
        switch (what) {
            case 0: return now.gloves;
            case 1: return now.wearers;
            case 2: return now.countOnHands();
            case 3: return now.hours;
            case 4: return now.countDoing(BUTTS);
            case 5: return now.countDoing(SITS_STILL);
            case 6: return now.countPleased();
            case 7: return now.countQuarrels();
            case 8: return now.sumOfTempers();
            case 9: return now.seen;
            case 10: return page.length;
            case 11: return timesRead;
            case 12: return timesDressed;
            default: return OUTSIDE;
        }
    }

    public long digest() {
        long h = 1237;
        for (int glove = 0; glove < now.gloves; glove++) {
            for (int what = 0; what <= LAST_OF_ONE; what++) {
                h = 31 * h + glove(glove, what);
            }
        }
        for (int wearer = 0; wearer < now.wearers; wearer++) {
            h = digestOfWearer(h, wearer);
        }
        if (hasShop()) {
            h = digestOfBoxes(h);
        }
        for (int place = 0; place < page.length; place++) {
            h = 31 * h + at(page.codes, place);
        }
        for (int what = 0; what <= LAST_COUNT; what++) {
            h = 31 * h + count(what);
        }
        return h;
    }

    private long digestOfWearer(long before, int wearer) {
        long h = before;
        for (int what = 0; what <= LAST_OF_ONE; what++) {
            h = 31 * h + wearer(wearer, what);
        }
        h = 31 * h + mood(wearer, 5);
        h = 31 * h + odds(wearer, 4, 6, 0);
        return 31 * h + odds(wearer, 4, 6, 1);
    }

    private long digestOfBoxes(long before) {
        packing.find(now);
        long h = 31 * before + packing.fewest;
        for (int glove = 0; glove < MOST_GLOVES; glove++) {
            h = 31 * h + at(packing.best, glove);
        }
        return h;
    }

    private boolean hasShop() {
        return now.gloves > 0;
    }

    private static boolean asksOfGlove(int what) {
        return within(what, ASKS_OF_FIRST, ASKS_OF_FIRST + MOST_GLOVES - 1);
    }

    private static boolean within(int number, int least, int most) {
        return number >= least && number <= most;
    }

    // Every row is read and written through these, so that no index can be beside it.

    private static int at(int[] row, int place) {
        return row != null && place >= 0 && place < row.length ? row[place] : 0;
    }

    private static void put(int[] row, int place, int number) {
        if (row != null && place >= 0 && place < row.length) {
            row[place] = number;
        }
    }

    private static void copyRow(int[] from, int[] to) {
        if (from != null && to != null) {
            System.arraycopy(from, 0, to, 0, Math.min(from.length, to.length));
        }
    }

    private static boolean hasBit(int bits, int place) {
        return (bits >> place & 1) != 0;
    }

    private static int kindOf(int code) {
        switch (code) {
            case 'g': return GLOVE;
            case 'k': return KID;
            case 'd': return DOE;
            case 'o': return OLD;
            case 'l': return LAMB;
            default: return NONE;
        }
    }

    private static boolean isOfKind(int own, int kind) {
        return kind == GLOVE || own == kind || own == LAMB && kind == KID;
    }

    private static int ageOf(int hoursOnHand) {
        return hoursOnHand < MOST_AGE ? hoursOnHand : MOST_AGE;
    }

    private static int temperOf(int kind, int mark, int age) {
        switch (kind) {
            case KID: return mark + age < TOP_DIGIT ? mark + age : TOP_DIGIT;
            case LAMB: return mark + 2 * age < TOP_DIGIT ? mark + 2 * age : TOP_DIGIT;
            case DOE: return age % 2 != 0 ? mark : 0;
            case OLD: return mark > age ? mark - age : 0;
            default: return mark;
        }
    }

    private static int doing(int mood) {
        if (mood <= MOST_STILL) {
            return SITS_STILL;
        }
        return mood >= LEAST_BUTTING ? BUTTS : NEITHER;
    }

    private static int commonDivisor(int one, int other) {
        int a = one;
        int b = other;
        // Euclid's rests halve in every two turns, so that 64 are enough for any int.
        for (int turn = 0; turn < 64 && b > 0; turn++) {
            int rest = a % b;
            a = b;
            b = rest;
        }
        return a;
    }

    /** THE PAGE: letters by their codes, and how a SHOP stands in them. */
    private static final class Page {
        final int[] codes = new int[MOST_LETTERS];
        int length;

        boolean add(int code) {
            if (length >= MOST_LETTERS) {
                return false;
            }
            put(codes, length, code);
            length++;
            return true;
        }

        int semicolon() {
            for (int place = 0; place < length; place++) {
                if (at(codes, place) == ';') {
                    return place;
                }
            }
            return NONE;
        }

        int firstFault() {
            int semicolon = semicolon();
            for (int place = 0; place < length; place++) {
                int code = at(codes, place);
                boolean behind = semicolon != NONE && place > semicolon;
                if (behind ? !isNerve(code, place - semicolon) : !isOfGloves(code, place)) {
                    return place;
                }
            }
            return length;
        }

        boolean isShop() {
            int semicolon = semicolon();
            return semicolon != NONE && length > semicolon + 1 && firstFault() == length;
        }

        // Ahead of the semicolon each GLOVE has three places: its KIND, its MARK, and what parts it from the next.
        static boolean isOfGloves(int code, int place) {
            int gloves = place / 3 + 1;
            switch (place % 3) {
                case 0: return kindOf(code) != NONE;
                case 1: return isDigit(code);
                default: return code == ',' && gloves < MOST_GLOVES || code == ';' && gloves >= FEWEST_GLOVES;
            }
        }

        static boolean isNerve(int code, int nerves) {
            return isDigit(code) && nerves <= MOST_WEARERS;
        }

        static boolean isDigit(int code) {
            return within(code, '0', '9');
        }

        void readInto(Shop shop) {
            int semicolon = semicolon();
            shop.open((semicolon + 1) / 3, length - semicolon - 1);
            for (int glove = 0; glove < shop.gloves; glove++) {
                put(shop.kinds, glove, kindOf(at(codes, 3 * glove)));
                put(shop.marks, glove, at(codes, 3 * glove + 1) - '0');
            }
            for (int wearer = 0; wearer < shop.wearers; wearer++) {
                put(shop.nerves, wearer, at(codes, semicolon + 1 + wearer) - '0');
            }
        }
    }

    /** A SHOP as it is at some HOUR: the one that is, the one of the IMAGE, or the one of the TEAS. */
    private static final class Shop {
        final int[] kinds = new int[MOST_GLOVES];
        final int[] marks = new int[MOST_GLOVES];
        final int[] ages = new int[MOST_GLOVES];
        final int[] holders = new int[MOST_GLOVES];
        final int[] sides = new int[MOST_GLOVES];
        final int[] nerves = new int[MOST_WEARERS];
        final int[] wishes = new int[MOST_WEARERS];
        final int[] seenGloves = new int[MOST_SEEN];
        final int[] seenMores = new int[MOST_SEEN];
        final int[] seenTempers = new int[MOST_SEEN];
        final int[] leftByTemper = new int[DIGITS];
        int gloves;
        int wearers;
        int hours;
        int seen;

        void open(int gloveCount, int wearerCount) {
            gloves = gloveCount;
            wearers = wearerCount;
            hours = 0;
            seen = 0;
            Arrays.fill(ages, 0);
            Arrays.fill(holders, NONE);
            Arrays.fill(sides, NONE);
            Arrays.fill(wishes, NO_WISH);
        }

        void copyFrom(Shop other) {
            gloves = other.gloves;
            wearers = other.wearers;
            hours = other.hours;
            seen = other.seen;
            copyRow(other.kinds, kinds);
            copyRow(other.marks, marks);
            copyRow(other.ages, ages);
            copyRow(other.holders, holders);
            copyRow(other.sides, sides);
            copyRow(other.nerves, nerves);
            copyRow(other.wishes, wishes);
            copyRow(other.seenGloves, seenGloves);
            copyRow(other.seenMores, seenMores);
            copyRow(other.seenTempers, seenTempers);
        }

        boolean hasGlove(int glove) {
            return glove >= 0 && glove < gloves;
        }

        boolean hasWearer(int wearer) {
            return wearer >= 0 && wearer < wearers;
        }

        void putOn(int glove, int wearer, int hand) {
            put(holders, glove, wearer);
            put(sides, glove, hand);
        }

        void takeOff(int glove) {
            put(holders, glove, NONE);
            put(sides, glove, NONE);
        }

        int gloveOn(int wearer, int hand) {
            for (int glove = 0; glove < gloves; glove++) {
                if (at(holders, glove) == wearer && at(sides, glove) == hand) {
                    return glove;
                }
            }
            return NONE;
        }

        /** The GLOVES, as bits, that a WEARER has on; those that nobody has on, for NONE. */
        int heldBy(int holder) {
            int bits = 0;
            for (int glove = 0; glove < gloves; glove++) {
                if (at(holders, glove) == holder) {
                    bits |= 1 << glove;
                }
            }
            return bits;
        }

        void passHour() {
            hours++;
            for (int glove = 0; glove < gloves; glove++) {
                if (at(holders, glove) != NONE) {
                    put(ages, glove, ageOf(at(ages, glove) + 1));
                }
            }
        }

        int temper(int glove, int more) {
            return temperOf(at(kinds, glove), at(marks, glove), ageOf(at(ages, glove) + more));
        }

        int quarrels(int glove) {
            int bits = 0;
            int own = temper(glove, 0);
            for (int other = 0; other < gloves; other++) {
                int gap = Math.abs(own - temper(other, 0));
                // A GLOVE is no gap from itself, so that it is never among these.
                if (gap >= QUARREL_GAP) {
                    bits |= 1 << other;
                }
            }
            return bits;
        }

        /** The MOOD of a WEARER with these GLOVES (as bits, two at most), each so much more of AGE. */
        int moodWith(int wearer, int bits, int more) {
            int mood = at(nerves, wearer);
            int least = TOP_DIGIT;
            int most = 0;
            for (int glove = 0; glove < gloves; glove++) {
                if (hasBit(bits, glove)) {
                    int temper = temper(glove, more);
                    mood += temper;
                    least = Math.min(least, temper);
                    most = Math.max(most, temper);
                }
            }
            return most - least >= QUARREL_GAP ? mood + QUARREL_MOOD : mood;
        }

        int moodOf(int wearer, int more) {
            return moodWith(wearer, heldBy(wearer), more);
        }

        boolean pleases(int wearer, int mood) {
            int wish = at(wishes, wearer);
            return wish == NO_WISH || wish == doing(mood);
        }

        /** What a WEARER has on, as bits, behind the fewest CHANGES by which he SITS STILL. */
        int stillSet(int wearer) {
            int on = heldBy(wearer);
            int choice = on | heldBy(NONE);
            int best = NONE;
            int fewest = MOST_GLOVES + 1;
            for (int bits = 0; bits < 1 << gloves; bits++) {
                int changes = Integer.bitCount(bits ^ on);
                boolean can = (bits & ~choice) == 0 && Integer.bitCount(bits) <= HANDS;
                if (can && changes < fewest && moodWith(wearer, bits, 0) <= MOST_STILL) {
                    best = bits;
                    fewest = changes;
                }
            }
            return best;
        }

        int changesTo(int wearer, int set) {
            return set == NONE ? NONE : Integer.bitCount(set ^ heldBy(wearer));
        }

        boolean addSeen(int glove, int more, int temper) {
            if (seen >= MOST_SEEN) {
                return false;
            }
            put(seenGloves, seen, glove);
            put(seenMores, seen, more);
            put(seenTempers, seen, temper);
            seen++;
            return true;
        }

        int possibleMarks(int glove) {
            int bits = 0;
            for (int mark = 0; mark <= TOP_DIGIT; mark++) {
                if (agreesWithSeen(glove, mark)) {
                    bits |= 1 << mark;
                }
            }
            return bits;
        }

        boolean agreesWithSeen(int glove, int mark) {
            int kind = at(kinds, glove);
            for (int sight = 0; sight < seen; sight++) {
                int age = ageOf(at(ages, glove) + at(seenMores, sight));
                if (at(seenGloves, sight) == glove && temperOf(kind, mark, age) != at(seenTempers, sight)) {
                    return false;
                }
            }
            return true;
        }

        int bestFeel(int glove) {
            int possible = possibleMarks(glove);
            if (possible == 0) {
                return NONE;
            }
            int best = 0;
            int fewest = DIGITS + 1;
            for (int more = 0; more <= TOP_DIGIT; more++) {
                int left = mostLeft(glove, possible, more);
                if (left < fewest) {
                    best = more;
                    fewest = left;
                }
            }
            return best;
        }

        /** How many of these MARKS are left at worst, when the GLOVE is felt at so much more AGE. */
        int mostLeft(int glove, int possible, int more) {
            int kind = at(kinds, glove);
            int age = ageOf(at(ages, glove) + more);
            int most = 0;
            Arrays.fill(leftByTemper, 0);
            for (int mark = 0; mark <= TOP_DIGIT; mark++) {
                if (hasBit(possible, mark)) {
                    int temper = temperOf(kind, mark, age);
                    int left = at(leftByTemper, temper) + 1;
                    put(leftByTemper, temper, left);
                    most = Math.max(most, left);
                }
            }
            return most;
        }

        void changeByDraws(Draws draws) {
            int glove = draws.next(gloves);
            if (at(holders, glove) != NONE) {
                takeOff(glove);
                return;
            }
            int wearer = draws.next(wearers);
            int hand = draws.next(HANDS);
            if (gloveOn(wearer, hand) == NONE) {
                putOn(glove, wearer, hand);
            }
        }

        int countOnHands() {
            return gloves - Integer.bitCount(heldBy(NONE));
        }

        int countDoing(int what) {
            int found = 0;
            for (int wearer = 0; wearer < wearers; wearer++) {
                if (doing(moodOf(wearer, 0)) == what) {
                    found++;
                }
            }
            return found;
        }

        int countPleased() {
            int found = 0;
            for (int wearer = 0; wearer < wearers; wearer++) {
                if (pleases(wearer, moodOf(wearer, 0))) {
                    found++;
                }
            }
            return found;
        }

        int countQuarrels() {
            int ends = 0;
            for (int glove = 0; glove < gloves; glove++) {
                ends += Integer.bitCount(quarrels(glove));
            }
            return ends / 2;
        }

        int sumOfTempers() {
            int sum = 0;
            for (int glove = 0; glove < gloves; glove++) {
                sum += temper(glove, 0);
            }
            return sum;
        }
    }

    /** DRESS: tries every way to give the GLOVES, in the order of "first by numbers". */
    private static final class Dressing {
        final int[] pleased = new int[MOST_WEARERS * SETS];
        final int[] sets = new int[MOST_WEARERS];
        final int[] given = new int[MOST_GLOVES];
        final int[] best = new int[MOST_GLOVES];
        int mostPleased;
        int fewestGiven;

        void find(Shop shop) {
            Arrays.fill(sets, 0);
            Arrays.fill(given, NONE);
            mostPleased = NONE;
            fewestGiven = 0;
            judgeSets(shop);
            give(this, shop, 0, 0);
        }

        // What a set of GLOVES does to a WEARER is told once here, as the ways to give them are many.
        void judgeSets(Shop shop) {
            for (int wearer = 0; wearer < shop.wearers; wearer++) {
                for (int bits = 0; bits < 1 << shop.gloves; bits++) {
                    if (Integer.bitCount(bits) <= HANDS) {
                        boolean fits = shop.pleases(wearer, shop.moodWith(wearer, bits, 0));
                        put(pleased, wearer * SETS + bits, fits ? 1 : 0);
                    }
                }
            }
        }

        private static void give(Dressing all, Shop shop, int glove, int used) {
            if (glove >= shop.gloves || glove >= MOST_GLOVES) {
                all.keepIfBetter(shop.wearers, used);
                return;
            }
            put(all.given, glove, NONE);
            give(all, shop, glove + 1, used);
            for (int wearer = 0; wearer < shop.wearers; wearer++) {
                int before = at(all.sets, wearer);
                if (Integer.bitCount(before) < HANDS) {
                    put(all.given, glove, wearer);
                    put(all.sets, wearer, before | 1 << glove);
                    give(all, shop, glove + 1, used + 1);
                    put(all.sets, wearer, before);
                }
            }
        }

        void keepIfBetter(int wearers, int used) {
            int found = 0;
            for (int wearer = 0; wearer < wearers; wearer++) {
                found += at(pleased, wearer * SETS + at(sets, wearer));
            }
            if (found > mostPleased || found == mostPleased && used < fewestGiven) {
                mostPleased = found;
                fewestGiven = used;
                copyRow(given, best);
            }
        }
    }

    /** BOXES: tries every way to pack the GLOVES, in the order of "first by numbers". */
    private static final class Packing {
        final int[] quarrels = new int[MOST_GLOVES];
        final int[] inBox = new int[MOST_GLOVES];
        final int[] boxOf = new int[MOST_GLOVES];
        final int[] best = new int[MOST_GLOVES];
        int fewest;

        void find(Shop shop) {
            Arrays.fill(inBox, 0);
            Arrays.fill(boxOf, NONE);
            fewest = MOST_GLOVES + 1;
            for (int glove = 0; glove < shop.gloves; glove++) {
                put(quarrels, glove, shop.quarrels(glove));
            }
            pack(this, shop.gloves, 0, 0);
        }

        private static void pack(Packing all, int gloves, int glove, int used) {
            if (used >= all.fewest) {
                return;
            }
            if (glove >= gloves || glove >= MOST_GLOVES) {
                all.fewest = used;
                copyRow(all.boxOf, all.best);
                return;
            }
            // Box `used` is the next new one: boxes are numbered as they are first met.
            for (int box = 0; box <= used; box++) {
                int before = at(all.inBox, box);
                if ((before & at(all.quarrels, glove)) == 0) {
                    put(all.boxOf, glove, box);
                    put(all.inBox, box, before | 1 << glove);
                    pack(all, gloves, glove + 1, box == used ? used + 1 : used);
                    put(all.inBox, box, before);
                }
            }
        }
    }

    /** ODDS: in how many whole parts of all he keeps his GLOVES on for 0, 1, 2.. of the HOURS. */
    private static final class Chances {
        final int[] ways = new int[MOST_ODDS_HOURS + 1];
        int all;

        void spread(int hours, int tenths) {
            Arrays.fill(ways, 0);
            put(ways, 0, 1);
            all = 1;
            for (int hour = 1; hour <= hours; hour++) {
                all *= TENTHS;
                // From above, so that each still finds its neighbour as it was an HOUR ago.
                for (int aged = hour; aged >= 1; aged--) {
                    put(ways, aged, at(ways, aged) * (TENTHS - tenths) + at(ways, aged - 1) * tenths);
                }
                put(ways, 0, at(ways, 0) * (TENTHS - tenths));
            }
        }
    }

    /** DRAWS by a SEED. */
    private static final class Draws {
        int seed;

        int next(int choices) {
            seed = (int) ((1103515245L * seed + 12345L) % 2147483648L);
            return choices > 0 ? seed / 65536 % choices : 0;
        }
    }
}
