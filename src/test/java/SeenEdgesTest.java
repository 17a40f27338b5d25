/** The edges that promises 18 to 20 name, sentence by sentence. */
public final class SeenEdgesTest {
    private static final int UNKNOWN = KidGloves.UNKNOWN, OUTSIDE = KidGloves.OUTSIDE, STATE = KidGloves.STATE;
    private static final int FULL = KidGloves.FULL;

    public static void main(String[] args) {
        seeUnknown();
        seeOutside();
        seeFull();
        see();
        forget();
        teasRefusals();
        teasTaken();
        drawsOfGloves();
        drawsOfHands();
        teasOfHandsNotFree();
        Check.end("SeenEdgesTest");
    }

    private static void seeUnknown() {
        Check.sentence("It is SEEN: .. UNKNOWN: glove;");
        Scene none = new Scene(Scene::empty);
        none.refused("see(0, 0, 0)", x -> x.see(0, 0, 0), UNKNOWN);
        none.refused("see(0, 10, -1)", x -> x.see(0, 10, -1), UNKNOWN);
        none.end();
        Scene busy = new Scene(Scene::busy);
        busy.refusedEach("see(.., 0, 0)", (x, glove) -> x.see(glove, 0, 0), UNKNOWN, Check.beside(0, 2));
        busy.refusedEach("see(.., 9, 9)", (x, glove) -> x.see(glove, 9, 9), UNKNOWN, Check.beside(0, 2));
        Check.sentence("UNKNOWN: glove; OUTSIDE: more (0 to 9), temper (0 to 9); - of both the first");
        for (int glove : new int[] {-1, 3}) {
            busy.refusedEach("see(" + glove + ", .., 0)", (x, more) -> x.see(glove, more, 0), UNKNOWN, Check.beside(0, 9));
            busy.refusedEach("see(" + glove + ", 0, ..)", (x, temper) -> x.see(glove, 0, temper), UNKNOWN, Check.beside(0, 9));
        }
        busy.end();
    }

    private static void seeOutside() {
        Check.sentence("OUTSIDE: more (0 to 9), temper (0 to 9);");
        Scene busy = new Scene(Scene::busy);
        busy.refusedEach("see(0, .., 0)", (x, more) -> x.see(0, more, 0), OUTSIDE, Check.beside(0, 9));
        busy.refusedEach("see(2, .., 9)", (x, more) -> x.see(2, more, 9), OUTSIDE, Check.beside(0, 9));
        busy.refusedEach("see(0, 0, ..)", (x, temper) -> x.see(0, 0, temper), OUTSIDE, Check.beside(0, 9));
        busy.refusedEach("see(2, 9, ..)", (x, temper) -> x.see(2, 9, temper), OUTSIDE, Check.beside(0, 9));
        busy.refused("see(0, 10, 10)", x -> x.see(0, 10, 10), OUTSIDE);
        busy.refused("see(0, -1, -1)", x -> x.see(0, -1, -1), OUTSIDE);
        busy.end();
    }

    private static void seeFull() {
        Check.sentence("SEEN (8 at most) .. FULL.");
        Scene full = new Scene(Scene::full);
        for (int glove = 0; glove < 6; glove++) {
            int of = glove;
            full.refused("see(" + of + ", 0, 0) above 8", x -> x.see(of, 0, 0), FULL);
            full.refused("see(" + of + ", 9, 9) above 8", x -> x.see(of, 9, 9), FULL);
        }
        Check.sentence("UNKNOWN: glove; .. FULL. - of both the first");
        full.refusedEach("see(.., 0, 0) above 8", (x, glove) -> x.see(glove, 0, 0), UNKNOWN, Check.beside(0, 5));
        full.refused("see(6, 10, 10) above 8", x -> x.see(6, 10, 10), UNKNOWN);
        Check.sentence("OUTSIDE: more (0 to 9), temper (0 to 9); FULL. - of both the first");
        full.refusedEach("see(0, .., 0) above 8", (x, more) -> x.see(0, more, 0), OUTSIDE, Check.beside(0, 9));
        full.refusedEach("see(5, 0, ..) above 8", (x, temper) -> x.see(5, 0, temper), OUTSIDE, Check.beside(0, 9));
        full.end();
    }

    private static void see() {
        Check.sentence("It is SEEN: how much is.");
        KidGloves x = Check.shop("g0,g0,g0,g0,g0,g9;0");
        Check.due("see(0, 0, 0)", x.see(0, 0, 0), 1);
        Check.due("see(0, 9, 0)", x.see(0, 9, 0), 2);
        Check.due("see(5, 0, 9)", x.see(5, 0, 9), 3);
        Check.due("see(5, 9, 9)", x.see(5, 9, 9), 4);
        for (int seen = 5; seen <= 8; seen++) {
            Check.due("see(1, 0, 0)", x.see(1, 0, 0), seen);
            Check.due("count(9)", x.count(9), seen);
        }
        Check.due("see(2, 0, 0), the ninth", x.see(2, 0, 0), FULL);
        Check.row("MARKS", glove -> x.glove(glove, 7), 1, 1, 1023, 1023, 1023, 512);
    }

    private static void forget() {
        Check.sentence("Nothing is SEEN any more: how much was.");
        KidGloves none = new KidGloves();
        Check.due("forget() without a SHOP", none.forget(), 0);
        KidGloves x = Check.shop("g0,g0;0");
        Check.due("forget() of nothing", x.forget(), 0);
        x.see(0, 0, 0);
        Check.due("forget() of one", x.forget(), 1);
        for (int times = 0; times < 2; times++) {
            for (int seen = 1; seen <= 8; seen++) {
                Check.due("see() behind it", x.see(1, 0, 3), seen);
            }
            Check.due("see() of a ninth", x.see(0, 0, 3), FULL);
            Check.due("forget() of eight", x.forget(), 8);
            Check.due("count(9)", x.count(9), 0);
            Check.row("MARKS", glove -> x.glove(glove, 7), 1023, 1023);
            Check.due("forget() again", x.forget(), 0);
        }
    }

    private static void teasRefusals() {
        Check.sentence("OUTSIDE: times (1 to 60), seed (0 at least), what; STATE: no SHOP.");
        Scene none = new Scene(Scene::empty);
        none.refused("teas(1, 0, 0)", x -> x.teas(1, 0, 0), STATE);
        none.refused("teas(60, 2147483647, 2)", x -> x.teas(60, 2147483647, 2), STATE);
        none.refusedEach("teas(.., 0, 0), of both the first", (x, times) -> x.teas(times, 0, 0), OUTSIDE, Check.beside(1, 60));
        none.refusedEach("teas(1, .., 0), of both the first", (x, seed) -> x.teas(1, seed, 0), OUTSIDE, -1, -2, Integer.MIN_VALUE);
        none.refusedEach("teas(1, 0, ..), of both the first", (x, what) -> x.teas(1, 0, what), OUTSIDE, Check.beside(0, 2));
        none.end();
        Scene busy = new Scene(Scene::busy);
        busy.refusedEach("teas(.., 0, 0)", (x, times) -> x.teas(times, 0, 0), OUTSIDE, Check.beside(1, 60));
        busy.refusedEach("teas(.., 2147483647, 2)", (x, times) -> x.teas(times, 2147483647, 2), OUTSIDE, Check.beside(1, 60));
        busy.refusedEach("teas(1, .., 0)", (x, seed) -> x.teas(1, seed, 0), OUTSIDE, -1, -2, Integer.MIN_VALUE);
        busy.refusedEach("teas(60, .., 2)", (x, seed) -> x.teas(60, seed, 2), OUTSIDE, -1, -2, Integer.MIN_VALUE);
        busy.refusedEach("teas(1, 0, ..)", (x, what) -> x.teas(1, 0, what), OUTSIDE, Check.beside(0, 2));
        busy.refusedEach("teas(60, 2147483647, ..)", (x, what) -> x.teas(60, 2147483647, what), OUTSIDE, Check.beside(0, 2));
        busy.refused("teas(0, -1, 3)", x -> x.teas(0, -1, 3), OUTSIDE);
        busy.end();
    }

    private static void teasAre(KidGloves x, int times, int seed, int butt, int gloves, int then) {
        String call = "teas(" + times + ", " + seed + ", ";
        long before = x.digest();
        Check.due(call + "0)", x.teas(times, seed, 0), butt);
        Check.due(call + "1)", x.teas(times, seed, 1), gloves);
        Check.due(call + "2)", x.teas(times, seed, 2), then);
        Check.due("digest() behind " + call + "..)", x.digest(), before);
    }

    private static void teasTaken() {
        Check.sentence("what = 0 how many, 1 how many GLOVES, 2 the SEED then. .. times (1 to 60), seed (0 at least)");
        KidGloves x = Check.shop("g9,g9;66");
        teasAre(x, 1, 0, 1, 1, 654583775);
        teasAre(x, 60, 0, 53, 1, 477410994);
        teasAre(x, 60, 2147483647, 49, 0, 243731491);
        KidGloves six = Check.shop("g9,g9,g9,g9,g9,g9;666");
        teasAre(six, 1, 2147483647, 1, 1, 646343466);
        teasAre(six, 60, 0, 122, 2, 1608358040);
        teasAre(Check.shop("k5,o7,d9,g0,l2,g4;407"), 60, 2147483647, 19, 2, 263049109);
        teasAre(Check.shop("k0,o9;6"), 60, 12345, 25, 1, 1024109173);
        KidGloves still = Check.shop("g0,g0;0");
        teasAre(still, 1, 0, 0, 1, 654583775);
    }

    // With all GLOVES on hands there is one DRAW of a TEA: the GLOVE is taken off.
    private static void drawsOfGloves() {
        Check.sentence("1103515245 times it and 12345, its rest by 2 to the 31; then that by 65536 (rounded down), its rest.");
        KidGloves two = Check.shop("g9,g0;66");
        two.wear(0, 0, 0);
        two.wear(1, 1, 0);
        teasAre(two, 1, 0, 0, 1, 12345);
        teasAre(two, 1, 2088216195, 0, 1, 0);
        teasAre(two, 1, 2032319262, 0, 1, 65535);
        teasAre(two, 1, 1742513795, 1, 1, 65536);
        teasAre(two, 1, 1686616862, 1, 1, 131071);
        teasAre(two, 1, 1396811395, 0, 1, 131072);
        teasAre(two, 1, 576240414, 0, 1, 2147418111);
        teasAre(two, 1, 286434947, 1, 1, 2147418112);
        teasAre(two, 1, 230538014, 1, 1, 2147483647);
        teasAre(two, 1, 2147483647, 1, 1, 1043980748);
        KidGloves last = Check.shop("g0,g0,g0,g0,g0,g9;666");
        KidGloves first = Check.shop("g9,g0,g0,g0,g0,g0;666");
        for (int glove = 0; glove < 6; glove++) {
            last.wear(glove, glove / 2, glove % 2);
            first.wear(glove, glove / 2, glove % 2);
        }
        teasAre(last, 1, 2147483647, 0, 5, 1043980748);
        teasAre(first, 1, 2147483647, 1, 5, 1043980748);
        teasAre(last, 1, 576240414, 1, 5, 2147418111);
        teasAre(first, 1, 576240414, 0, 5, 2147418111);
    }

    private static void drawsOfHands() {
        Check.sentence("else, by a DRAW of how many WEARERS there are and a DRAW of 2 it is put on that hand");
        // By SEED 0 the DRAWS are 0; then of one WEARER 0 and of 2 0; 1, 0, 1; 1; 1, 0, 0; 1, 0, 1; 1.
        KidGloves one = Check.shop("g9,g9;6");
        teasAre(one, 1, 0, 1, 1, 654583775);
        teasAre(one, 2, 0, 2, 2, 1109335178);
        teasAre(one, 3, 0, 3, 1, 1051550459);
        teasAre(one, 4, 0, 4, 1, 551188310);
        teasAre(one, 5, 0, 5, 2, 370913197);
        teasAre(one, 6, 0, 6, 1, 639546082);
        // By this SEED they are 5 of 6, 2 of 3, 0 of 2: the last GLOVE on the last WEARER's left hand.
        KidGloves three = Check.shop("g0,g0,g0,g0,g0,g9;006");
        teasAre(three, 1, 2147483647, 1, 1, 646343466);
        three.wear(0, 2, 0);
        teasAre(three, 1, 2147483647, 0, 1, 646343466);
        three.off(0);
        three.wear(0, 2, 1);
        teasAre(three, 1, 2147483647, 1, 2, 646343466);
    }

    private static void teasOfHandsNotFree() {
        Check.sentence("it is put on that hand, if that is free; then an HOUR goes by");
        // By SEED 0 GLOVE 0 is to be on WEARER 0's left hand, which GLOVE 1 has: but this grows older.
        KidGloves x = Check.shop("g9,k8;6");
        x.wear(1, 0, 0);
        teasAre(x, 1, 0, 1, 1, 654583775);
        x.off(1);
        x.wear(1, 0, 1);
        teasAre(x, 1, 0, 1, 2, 654583775);
        KidGloves y = Check.shop("g9,g0;6");
        y.wear(1, 0, 0);
        teasAre(y, 1, 0, 0, 1, 654583775);
    }
}
