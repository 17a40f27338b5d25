/** Promises 18 to 20: what is SEEN, and TEAS. */
public final class SeenTest {
    private static final int[] FAR = {-1, 10, 100, Integer.MIN_VALUE, Integer.MAX_VALUE};

    public static void main(String[] args) {
        see();
        forget();
        teasRefusals();
        teas();
        teasGrowOlder();
        Check.end("SeenTest");
    }

    private static void see() {
        KidGloves x = Check.shop("k5,o7;4");
        Check.each("see(.., 0, 0)", glove -> x.see(glove, 0, 0), KidGloves.UNKNOWN, FAR);
        Check.each("see(0, .., 0)", more -> x.see(0, more, 0), KidGloves.OUTSIDE, FAR);
        Check.each("see(0, 0, ..)", temper -> x.see(0, 0, temper), KidGloves.OUTSIDE, FAR);
        Check.due("see(2, 10, 0)", x.see(2, 10, 0), KidGloves.UNKNOWN);
        Check.due("count(9) behind refusals", x.count(9), 0);
        Check.due("see(0, 0, 5)", x.see(0, 0, 5), 1);
        Check.due("see(0, 0, 5), the same again", x.see(0, 0, 5), 2);
        for (int had = 2; had < 8; had++) {
            Check.due("see(1, 9, 0) behind " + had, x.see(1, 9, 0), had + 1);
        }
        Check.due("see(0, 0, 6) above 8", x.see(0, 0, 6), KidGloves.FULL);
        Check.due("see(0, 0, 10) above 8", x.see(0, 0, 10), KidGloves.OUTSIDE);
        Check.due("see(2, 0, 0) above 8", x.see(2, 0, 0), KidGloves.UNKNOWN);
        Check.due("count(9)", x.count(9), 8);
        Check.due("MARKS, the last not being SEEN", x.glove(0, 7), 1 << 5);
        Check.due("its TEMPER is its own", x.glove(0, 3), 5);
    }

    private static void forget() {
        KidGloves x = Check.shop("k5,o7;4");
        Check.due("forget() of nothing", x.forget(), 0);
        x.see(0, 0, 5);
        x.see(1, 0, 5);
        x.see(1, 0, 6);
        Check.due("forget()", x.forget(), 3);
        Check.due("forget() again", x.forget(), 0);
        Check.due("count(9)", x.count(9), 0);
        Check.row("MARKS", glove -> x.glove(glove, 7), 1023, 1023);
        Check.due("see() behind it", x.see(0, 0, 4), 1);
        Check.row("MARKS", glove -> x.glove(glove, 7), 1 << 4, 1023);
    }

    private static void teasRefusals() {
        KidGloves x = new KidGloves();
        Check.due("teas(1, 0, 0) without a SHOP", x.teas(1, 0, 0), KidGloves.STATE);
        Check.due("teas(61, 0, 0) without a SHOP", x.teas(61, 0, 0), KidGloves.OUTSIDE);
        Check.read(x, "k5,o7;4");
        Check.each("teas(.., 0, 0)", times -> x.teas(times, 0, 0), KidGloves.OUTSIDE,
            0, 61, -1, Integer.MIN_VALUE, Integer.MAX_VALUE);
        Check.each("teas(1, .., 0)", seed -> x.teas(1, seed, 0), KidGloves.OUTSIDE, -1, Integer.MIN_VALUE);
        Check.each("teas(1, 0, ..)", what -> x.teas(1, 0, what), KidGloves.OUTSIDE,
            3, -1, Integer.MIN_VALUE, Integer.MAX_VALUE);
    }

    // By SEED 0 the DRAWS of 2 are 0 0 0, 1 0 1, 1, 1 0 0: put on, put on, taken off, a hand that is not free.
    private static void teas() {
        KidGloves x = Check.shop("g9,g9;66");
        long before = x.digest();
        teasAre(x, 1, 0, 1, 1, 654583775);
        teasAre(x, 2, 0, 2, 2, 1109335178);
        teasAre(x, 3, 0, 3, 1, 1051550459);
        teasAre(x, 4, 0, 4, 1, 551188310);
        Check.due("seed behind DRAWS 1 1 0", x.teas(1, 2147483647, 2), 646343466);
        Check.due("digest() behind all", x.digest(), before);

        // The same DRAWS, the first GLOVE being on: taken off, taken off again as put on, ..
        x.wear(0, 1, 1);
        teasAre(x, 1, 0, 0, 0, 12345);
        teasAre(x, 2, 0, 1, 1, 1449466924);
        Check.due("who has the first", x.glove(0, 4), 1);
        Check.due("its AGE", x.glove(0, 2), 0);
        Check.due("count(3)", x.count(3), 0);
        Check.due("the most TEAS", x.teas(60, 0, 0) >= 0 ? 1 : 0, 1);
    }

    private static void teasAre(KidGloves x, int times, int seed, int butt, int gloves, int then) {
        String call = "teas(" + times + ", " + seed + ", ";
        Check.due(call + "0)", x.teas(times, seed, 0), butt);
        Check.due(call + "1)", x.teas(times, seed, 1), gloves);
        Check.due(call + "2)", x.teas(times, seed, 2), then);
    }

    private static void teasGrowOlder() {
        KidGloves x = Check.shop("k7,g0;66");
        Check.row("TEAS of a KID", times -> times == 0 ? 0 : x.teas(times, 0, 0), 0, 0, 1, 2, 3);
        KidGloves y = Check.shop("d9,g0;66");
        Check.row("TEAS of a DOE", times -> times == 0 ? 0 : y.teas(times, 0, 0), 0, 1, 1, 2, 2);
    }
}
