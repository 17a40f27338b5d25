import java.math.BigInteger;
import java.util.ArrayDeque;
import java.util.ArrayList;
import java.util.HashMap;
import java.util.List;
import java.util.Map;
import java.util.regex.Matcher;
import java.util.regex.Pattern;

/** The document written a second time, by other ways and with the Java library, for ModelTest to compare with. */
final class Oracle {
    private static final int NONE = -1, UNKNOWN = -101, OUTSIDE = -102, STATE = -103, FULL = -104;
    private static final Pattern SHOP = Pattern.compile("[gkdol][0-9](,[gkdol][0-9]){1,5};[0-9]{1,3}");

    private record Glove(char letter, int mark, int age, int who, int hand) {
        int temper(int more) {
            return temperWith(mark, more);
        }

        int temperWith(int someMark, int more) {
            int then = Math.min(20, age + more);
            return switch (letter) {
                case 'k' -> Math.min(9, someMark + then);
                case 'l' -> Math.min(9, someMark + then + then);
                case 'd' -> someMark * (then & 1);
                case 'o' -> Math.max(0, someMark - then);
                default -> someMark;
            };
        }
    }

    private record Wearer(int nerve, int wish) {
        boolean content(int mood) {
            return wish == 2 || wish == 0 && mood <= 8 || wish == 1 && mood >= 15;
        }
    }

    private record Seen(int glove, int more, int temper) {
    }

    private record Shop(List<Glove> gloves, List<Wearer> wearers, List<Seen> seen, int hours) {
        Shop copy() {
            return new Shop(new ArrayList<>(gloves), new ArrayList<>(wearers), new ArrayList<>(seen), hours);
        }

        Shop later() {
            Shop next = new Shop(new ArrayList<>(), wearers, seen, hours + 1);
            for (Glove g : gloves) {
                int age = g.who == NONE ? g.age : Math.min(20, g.age + 1);
                next.gloves.add(new Glove(g.letter, g.mark, age, g.who, g.hand));
            }
            return next;
        }

        void move(int glove, int who, int hand) {
            Glove g = gloves.get(glove);
            gloves.set(glove, new Glove(g.letter, g.mark, g.age, who, hand));
        }

        int on(int wearer, int hand) {
            for (Glove g : gloves) {
                if (g.who == wearer && g.hand == hand) {
                    return gloves.indexOf(g);
                }
            }
            return NONE;
        }

        boolean quarrel(int one, int other) {
            return Math.abs(gloves.get(one).temper(0) - gloves.get(other).temper(0)) >= 4;
        }

        int mood(int wearer, List<Integer> set, int more) {
            int mood = wearers.get(wearer).nerve;
            for (int glove : set) {
                mood += gloves.get(glove).temper(more);
            }
            if (set.size() == 2
                && Math.abs(gloves.get(set.get(0)).temper(more) - gloves.get(set.get(1)).temper(more)) > 3) {
                mood += 3;
            }
            return mood;
        }

        List<Integer> has(int wearer) {
            List<Integer> set = new ArrayList<>();
            for (int glove = 0; glove < gloves.size(); glove++) {
                if (gloves.get(glove).who == wearer) {
                    set.add(glove);
                }
            }
            return set;
        }

        int mood(int wearer, int more) {
            return mood(wearer, has(wearer), more);
        }

        int butting() {
            int n = 0;
            for (int wearer = 0; wearer < wearers.size(); wearer++) {
                n += mood(wearer, 0) > 14 ? 1 : 0;
            }
            return n;
        }

        int onHands() {
            int n = 0;
            for (Glove g : gloves) {
                n += g.who == NONE ? 0 : 1;
            }
            return n;
        }
    }

    private String page = "";
    private Shop now = new Shop(new ArrayList<>(), new ArrayList<>(), new ArrayList<>(), 0);
    private Shop kept = null;
    private int read = 0;
    private int dressed = 0;
    private int seedThen = 0;

    int letter(int code) {
        if (code < 32 || code > 126) {
            return OUTSIDE;
        }
        if (page.length() == 26) {
            return FULL;
        }
        page += (char) code;
        return page.length();
    }

    int blank() {
        int had = page.length();
        page = "";
        return had;
    }

    int fault() {
        for (int end = 1; end <= page.length(); end++) {
            Matcher matcher = SHOP.matcher(page.substring(0, end));
            if (!matcher.matches() && !matcher.hitEnd()) {
                return end - 1;
            }
        }
        return page.length();
    }

    int shop() {
        if (!SHOP.matcher(page).matches()) {
            return STATE;
        }
        String[] halves = page.split(";");
        now = new Shop(new ArrayList<>(), new ArrayList<>(), new ArrayList<>(), 0);
        for (String glove : halves[0].split(",")) {
            now.gloves.add(new Glove(glove.charAt(0), glove.charAt(1) - '0', 0, NONE, NONE));
        }
        for (char nerve : halves[1].toCharArray()) {
            now.wearers.add(new Wearer(nerve - '0', 2));
        }
        page = "";
        kept = null;
        read++;
        return now.gloves.size();
    }

    private boolean noGlove(int glove) {
        return glove < 0 || glove >= now.gloves.size();
    }

    private boolean noWearer(int wearer) {
        return wearer < 0 || wearer >= now.wearers.size();
    }

    int glove(int glove, int what) {
        if (noGlove(glove)) {
            return UNKNOWN;
        }
        Glove g = now.gloves.get(glove);
        return switch (what) {
            case 0 -> "gkdol".indexOf(g.letter);
            case 1 -> g.mark;
            case 2 -> g.age;
            case 3 -> g.temper(0);
            case 4 -> g.who;
            case 5 -> g.hand;
            case 6 -> bits(quarrelsOf(glove));
            case 7 -> bits(marks(glove));
            case 8 -> feel(glove);
            default -> OUTSIDE;
        };
    }

    private static int bits(List<Integer> set) {
        int bits = 0;
        for (int member : set) {
            bits |= 1 << member;
        }
        return bits;
    }

    private List<Integer> quarrelsOf(int glove) {
        List<Integer> others = new ArrayList<>();
        for (int other = 0; other < now.gloves.size(); other++) {
            if (other != glove && now.quarrel(glove, other)) {
                others.add(other);
            }
        }
        return others;
    }

    private List<Integer> marks(int glove) {
        List<Integer> marks = new ArrayList<>(List.of(0, 1, 2, 3, 4, 5, 6, 7, 8, 9));
        Glove g = now.gloves.get(glove);
        for (Seen s : now.seen) {
            marks.removeIf(mark -> s.glove == glove && g.temperWith(mark, s.more) != s.temper);
        }
        return marks;
    }

    private int feel(int glove) {
        List<Integer> marks = marks(glove);
        int best = NONE;
        int fewest = 11;
        for (int more = 0; more <= 9 && !marks.isEmpty(); more++) {
            Map<Integer, Integer> left = new HashMap<>();
            for (int mark : marks) {
                left.merge(now.gloves.get(glove).temperWith(mark, more), 1, Integer::sum);
            }
            int worst = left.values().stream().max(Integer::compare).get();
            if (worst < fewest) {
                fewest = worst;
                best = more;
            }
        }
        return best;
    }

    int as(int glove, int kind) {
        if (noGlove(glove)) {
            return UNKNOWN;
        }
        if (kind < 0 || kind > 4) {
            return OUTSIDE;
        }
        String ofKind = new String[] {"gkdol", "kl", "d", "o", "l"}[kind];
        return ofKind.indexOf(now.gloves.get(glove).letter) >= 0 ? glove : NONE;
    }

    int wearer(int wearer, int what) {
        if (noWearer(wearer)) {
            return UNKNOWN;
        }
        Wearer w = now.wearers.get(wearer);
        int mood = now.mood(wearer, 0);
        return switch (what) {
            case 0 -> w.nerve;
            case 1 -> mood;
            case 2, 3 -> now.on(wearer, what - 2);
            case 4 -> mood < 9 ? 0 : mood > 14 ? 1 : 2;
            case 5 -> w.wish;
            case 6 -> w.content(mood) ? 1 : 0;
            case 7 -> changes(wearer)[0];
            case 8 -> changes(wearer)[1];
            default -> OUTSIDE;
        };
    }

    /** Step by step, one GLOVE taken off or put on at a time: how few, and what he has on then. */
    private int[] changes(int wearer) {
        int start = bits(now.has(wearer));
        Map<Integer, Integer> steps = new HashMap<>(Map.of(start, 0));
        ArrayDeque<Integer> open = new ArrayDeque<>(List.of(start));
        int[] best = {NONE, NONE};
        while (!open.isEmpty()) {
            int at = open.poll();
            int far = steps.get(at);
            if (now.mood(wearer, members(at), 0) <= 8
                && (best[0] == NONE || far < best[0] || far == best[0] && at < best[1])) {
                best = new int[] {far, at};
            }
            for (int glove = 0; glove < now.gloves.size(); glove++) {
                int who = now.gloves.get(glove).who;
                int next = at ^ 1 << glove;
                if ((who == NONE || who == wearer) && members(next).size() <= 2 && !steps.containsKey(next)) {
                    steps.put(next, far + 1);
                    open.add(next);
                }
            }
        }
        return best;
    }

    private static List<Integer> members(int bits) {
        List<Integer> set = new ArrayList<>();
        for (int glove = 0; glove < 6; glove++) {
            if ((bits & 1 << glove) != 0) {
                set.add(glove);
            }
        }
        return set;
    }

    int wear(int glove, int wearer, int hand) {
        if (noGlove(glove) || noWearer(wearer)) {
            return UNKNOWN;
        }
        if (hand != 0 && hand != 1) {
            return OUTSIDE;
        }
        if (now.gloves.get(glove).who != NONE || now.on(wearer, hand) != NONE) {
            return STATE;
        }
        now.move(glove, wearer, hand);
        return now.mood(wearer, 0);
    }

    int off(int glove) {
        if (noGlove(glove)) {
            return UNKNOWN;
        }
        int who = now.gloves.get(glove).who;
        if (who == NONE) {
            return STATE;
        }
        now.move(glove, NONE, NONE);
        return who;
    }

    int hour() {
        if (now.gloves.isEmpty()) {
            return STATE;
        }
        if (now.hours == 999) {
            return FULL;
        }
        now = now.later();
        return now.hours;
    }

    int book(int glove, int mark) {
        if (noGlove(glove)) {
            return UNKNOWN;
        }
        if (mark < 0 || mark > 9) {
            return OUTSIDE;
        }
        Glove g = now.gloves.get(glove);
        now.gloves.set(glove, new Glove(g.letter, mark, g.age, g.who, g.hand));
        return g.mark;
    }

    int wish(int wearer, int nerve, int wish) {
        if (noWearer(wearer)) {
            return UNKNOWN;
        }
        if (nerve < 0 || nerve > 9 || wish < 0 || wish > 2) {
            return OUTSIDE;
        }
        return now.wearers.set(wearer, new Wearer(nerve, wish)).wish;
    }

    int mood(int wearer, int hours) {
        if (noWearer(wearer)) {
            return UNKNOWN;
        }
        if (hours < 0 || hours > 40) {
            return OUTSIDE;
        }
        Shop then = now.copy();
        for (int hour = 0; hour < hours; hour++) {
            then = then.later();
        }
        return then.mood(wearer, 0);
    }

    int dress(int what) {
        if (what != 0 && what != 1 && (what < 10 || what > 15)) {
            return OUTSIDE;
        }
        if (now.gloves.isEmpty() || dressed == 20) {
            return STATE;
        }
        dressed++;
        int choices = now.wearers.size() + 1;
        int ways = BigInteger.valueOf(choices).pow(now.gloves.size()).intValue();
        int[] best = null;
        for (int way = 0; way < ways; way++) {
            int[] told = dressedSo(way, choices);
            if (told != null && (best == null || told[0] > best[0] || told[0] == best[0] && told[1] < best[1])) {
                best = told;
            }
        }
        return best[what < 10 ? what : what - 8];
    }

    /** How many are content, how many GLOVES, and to whom each; null, if one would have more than two. */
    private int[] dressedSo(int way, int choices) {
        int[] told = {0, 0, NONE, NONE, NONE, NONE, NONE, NONE};
        List<List<Integer>> sets = new ArrayList<>();
        for (int wearer = 0; wearer < now.wearers.size(); wearer++) {
            sets.add(new ArrayList<>());
        }
        int rest = way;
        for (int glove = now.gloves.size() - 1; glove >= 0; glove--) {
            int to = rest % choices - 1;
            rest /= choices;
            told[2 + glove] = to;
            if (to != NONE) {
                told[1]++;
                sets.get(to).add(glove);
            }
        }
        for (int wearer = 0; wearer < sets.size(); wearer++) {
            if (sets.get(wearer).size() > 2) {
                return null;
            }
            told[0] += now.wearers.get(wearer).content(now.mood(wearer, sets.get(wearer), 0)) ? 1 : 0;
        }
        return told;
    }

    int boxes(int what) {
        if (what != 0 && (what < 10 || what > 15)) {
            return OUTSIDE;
        }
        if (now.gloves.isEmpty()) {
            return STATE;
        }
        int gloves = now.gloves.size();
        for (int howMany = 1; ; howMany++) {
            int ways = BigInteger.valueOf(howMany).pow(gloves).intValue();
            for (int way = 0; way < ways; way++) {
                int[] in = new int[gloves];
                int rest = way;
                for (int glove = gloves - 1; glove >= 0; glove--) {
                    in[glove] = rest % howMany;
                    rest /= howMany;
                }
                if (peaceful(in)) {
                    return what == 0 ? howMany : what - 10 < gloves ? in[what - 10] : NONE;
                }
            }
        }
    }

    private boolean peaceful(int[] in) {
        for (int one = 0; one < in.length; one++) {
            for (int other = 0; other < one; other++) {
                if (in[one] == in[other] && now.quarrel(one, other)) {
                    return false;
                }
            }
        }
        return true;
    }

    int odds(int wearer, int hours, int tenths, int what) {
        if (noWearer(wearer)) {
            return UNKNOWN;
        }
        if (hours < 1 || hours > 8 || tenths < 0 || tenths > 10 || what < 0 || what > 1) {
            return OUTSIDE;
        }
        BigInteger above = BigInteger.ZERO;
        for (int keeps = 0; keeps < 1 << hours; keeps++) {
            BigInteger weight = BigInteger.ONE;
            int aged = 0;
            for (int hour = 0; hour < hours; hour++) {
                boolean keep = (keeps & 1 << hour) != 0;
                aged += keep ? 1 : 0;
                weight = weight.multiply(BigInteger.valueOf(keep ? tenths : 10 - tenths));
            }
            if (now.mood(wearer, aged) > 14) {
                above = above.add(weight);
            }
        }
        BigInteger below = BigInteger.TEN.pow(hours);
        return (what == 0 ? above : below).divide(above.gcd(below)).intValueExact();
    }

    int see(int glove, int more, int temper) {
        if (noGlove(glove)) {
            return UNKNOWN;
        }
        if (more < 0 || more > 9 || temper < 0 || temper > 9) {
            return OUTSIDE;
        }
        if (now.seen.size() == 8) {
            return FULL;
        }
        now.seen.add(new Seen(glove, more, temper));
        return now.seen.size();
    }

    int forget() {
        int had = now.seen.size();
        now.seen.clear();
        return had;
    }

    private int draw(int of) {
        BigInteger next = BigInteger.valueOf(1103515245).multiply(BigInteger.valueOf(seedThen))
            .add(BigInteger.valueOf(12345)).mod(BigInteger.TWO.pow(31));
        seedThen = next.intValueExact();
        return next.shiftRight(16).mod(BigInteger.valueOf(of)).intValueExact();
    }

    int teas(int times, int seed, int what) {
        if (times < 1 || times > 60 || seed < 0 || what < 0 || what > 2) {
            return OUTSIDE;
        }
        if (now.gloves.isEmpty()) {
            return STATE;
        }
        Shop then = now.copy();
        seedThen = seed;
        int butted = 0;
        for (int time = 0; time < times; time++) {
            int glove = draw(then.gloves.size());
            if (then.gloves.get(glove).who != NONE) {
                then.move(glove, NONE, NONE);
            } else {
                int wearer = draw(then.wearers.size());
                int hand = draw(2);
                if (then.on(wearer, hand) == NONE) {
                    then.move(glove, wearer, hand);
                }
            }
            then = then.later();
            butted += then.butting();
        }
        return new int[] {butted, then.onHands(), seedThen}[what];
    }

    int image() {
        if (now.gloves.isEmpty()) {
            return STATE;
        }
        kept = now.copy();
        return now.hours;
    }

    int restore() {
        if (kept == null) {
            return STATE;
        }
        now = kept.copy();
        return now.hours;
    }

    int count(int what) {
        int n = 0;
        switch (what) {
            case 0: return now.gloves.size();
            case 1: return now.wearers.size();
            case 2: return now.onHands();
            case 3: return now.hours;
            case 4: return now.butting();
            case 5:
                for (int wearer = 0; wearer < now.wearers.size(); wearer++) {
                    n += wearer(wearer, 4) == 0 ? 1 : 0;
                }
                return n;
            case 6:
                for (int wearer = 0; wearer < now.wearers.size(); wearer++) {
                    n += wearer(wearer, 6);
                }
                return n;
            case 7:
                for (int one = 0; one < now.gloves.size(); one++) {
                    for (int other = 0; other < one; other++) {
                        n += now.quarrel(one, other) ? 1 : 0;
                    }
                }
                return n;
            case 8: return now.gloves.stream().mapToInt(g -> g.temper(0)).sum();
            case 9: return now.seen.size();
            case 10: return page.length();
            case 11: return read;
            case 12: return dressed;
            default: return OUTSIDE;
        }
    }

    long digest() {
        List<Integer> told = new ArrayList<>();
        for (int glove = 0; glove < now.gloves.size(); glove++) {
            for (int what = 0; what <= 8; what++) {
                told.add(glove(glove, what));
            }
        }
        for (int wearer = 0; wearer < now.wearers.size(); wearer++) {
            for (int what = 0; what <= 8; what++) {
                told.add(wearer(wearer, what));
            }
            told.addAll(List.of(mood(wearer, 5), odds(wearer, 4, 6, 0), odds(wearer, 4, 6, 1)));
        }
        if (!now.gloves.isEmpty()) {
            for (int what : new int[] {0, 10, 11, 12, 13, 14, 15}) {
                told.add(boxes(what));
            }
        }
        page.chars().forEach(told::add);
        for (int what = 0; what <= 12; what++) {
            told.add(count(what));
        }
        long h = 1237;
        for (int number : told) {
            h = 31 * h + number;
        }
        return h;
    }
}
