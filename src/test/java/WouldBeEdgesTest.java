/** The edges that promises 14 to 17 name, sentence by sentence. */
public final class WouldBeEdgesTest {
    private static final int NONE = KidGloves.NONE;
    private static final int UNKNOWN = KidGloves.UNKNOWN, OUTSIDE = KidGloves.OUTSIDE, STATE = KidGloves.STATE;
    private static final int[] NO_ASKS = {-1, -2, 2, 3, 8, 9, 16, 17, 100, Integer.MIN_VALUE, Integer.MAX_VALUE};

    public static void main(String[] args) {
        moodRefusals();
        mood();
        dressRefusals();
        dressTwentyTimes();
        dressAsked();
        boxesRefusals();
        boxesAsked();
        oddsUnknown();
        oddsOutside();
        oddsByHours();
        oddsByTenths();
        oddsInLowestTerms();
        Check.end("WouldBeEdgesTest");
    }

    private static void moodRefusals() {
        Check.sentence("What MOOD a WEARER has behind so many HOURS .. UNKNOWN; OUTSIDE: hours (0 to 40).");
        Scene none = new Scene(Scene::empty);
        none.refusedEach("mood(0, ..)", (x, hours) -> x.mood(0, hours), UNKNOWN, 0, 40, 41, -1);
        none.end();
        Scene busy = new Scene(Scene::busy);
        busy.refusedEach("mood(.., 0)", (x, wearer) -> x.mood(wearer, 0), UNKNOWN, Check.beside(0, 1));
        busy.refusedEach("mood(.., 40)", (x, wearer) -> x.mood(wearer, 40), UNKNOWN, Check.beside(0, 1));
        busy.refusedEach("mood(0, ..)", (x, hours) -> x.mood(0, hours), OUTSIDE, Check.beside(0, 40));
        busy.refusedEach("mood(1, ..)", (x, hours) -> x.mood(1, hours), OUTSIDE, Check.beside(0, 40));
        busy.refusedEach("mood(2, ..), of both the first", (x, hours) -> x.mood(2, hours), UNKNOWN, Check.beside(0, 40));
        busy.refusedEach("mood(-1, ..), of both the first", (x, hours) -> x.mood(-1, hours), UNKNOWN, Check.beside(0, 40));
        busy.end();
    }

    private static void mood() {
        Check.sentence("hours (0 to 40)");
        KidGloves x = Check.shop("o9,d9,k0;510");
        x.wear(0, 0, 0);
        x.wear(1, 1, 1);
        int[] byHours = {14, 13, 12, 11, 10, 9, 8, 7, 6, 5, 5};
        Check.row("mood(0, ..)", hours -> x.mood(0, hours), byHours);
        for (int hours = 0; hours <= 40; hours++) {
            Check.due("mood(0, " + hours + ")", x.mood(0, hours), byHours[Math.min(hours, 10)]);
            Check.due("mood(1, " + hours + ")", x.mood(1, hours), hours < 20 && hours % 2 == 1 ? 10 : 1);
            Check.due("mood(2, " + hours + "), bare", x.mood(2, hours), 0);
        }
        Check.due("HOURS behind all", x.count(3), 0);
    }

    private static void dressRefusals() {
        Check.sentence("OUTSIDE; STATE: no SHOP, or dress() was done 20 times in all");
        Scene none = new Scene(Scene::empty);
        none.refusedEach("dress()", KidGloves::dress, STATE, 0, 1, 10, 11, 12, 13, 14, 15);
        none.refusedEach("dress(), of both the first", KidGloves::dress, OUTSIDE, NO_ASKS);
        none.end();
        Scene busy = new Scene(Scene::busy);
        busy.refusedEach("dress()", KidGloves::dress, OUTSIDE, NO_ASKS);
        busy.end();
        Scene full = new Scene(Scene::full);
        full.refusedEach("dress() the 21st time", KidGloves::dress, STATE, 0, 1, 10, 11, 12, 13, 14, 15);
        full.refusedEach("dress() the 21st time, of both the first", KidGloves::dress, OUTSIDE, NO_ASKS);
        full.end();
    }

    private static void dressTwentyTimes() {
        Check.sentence("or dress() was done 20 times in all (shop(), restore() change nothing of that)");
        KidGloves x = new KidGloves();
        Check.due("dress(0) without a SHOP is not done", x.dress(0), STATE);
        Check.read(x, "g9,g9;6");
        x.image();
        for (int times = 1; times <= 19; times++) {
            Check.due("dress(0), time " + times, x.dress(0), 1);
            Check.due("dress(2), which is not done", x.dress(2), OUTSIDE);
            Check.due("count(12)", x.count(12), times);
        }
        Check.due("restore()", x.restore(), 0);
        Check.due("count(12) behind restore()", x.count(12), 19);
        Check.read(x, "g9,g9;6");
        x.image();
        Check.due("count(12) behind shop()", x.count(12), 19);
        Check.due("dress(15), the 20th time, of none such", x.dress(15), NONE);
        Check.due("count(12)", x.count(12), 20);
        Check.due("dress(0), the 21st time", x.dress(0), STATE);
        Check.due("dress(15), the 21st time", x.dress(15), STATE);
        x.restore();
        Check.due("dress(0) behind restore()", x.dress(0), STATE);
        Check.read(x, "g9,g9;6");
        Check.due("dress(0) behind shop()", x.dress(0), STATE);
        Check.due("count(12)", x.count(12), 20);
    }

    private static void dressAsked() {
        Check.sentence("what = 0 with how many, 1 how many GLOVES,"
            + " 10 to 15 to whom GLOVE 0 to 5 (NONE: to nobody, or there is none such)");
        KidGloves x = Check.shop("g9,g0,g9,g0,g0,g9;666");
        for (int wearer = 0; wearer < 3; wearer++) {
            x.wish(wearer, 6, 1);
        }
        Check.row("dress(0, 1)", x::dress, 3, 3);
        Check.row("dress(10 to 15)", glove -> x.dress(10 + glove), 0, NONE, 1, NONE, NONE, 2);
        KidGloves y = Check.shop("g9,g9;6");
        y.wish(0, 6, 1);
        Check.row("dress(0, 1)", y::dress, 1, 1);
        Check.row("dress(10 to 15)", glove -> y.dress(10 + glove), NONE, 0, NONE, NONE, NONE, NONE);
    }

    private static void boxesRefusals() {
        Check.sentence("(NONE: there is none such). OUTSIDE; STATE: no SHOP.");
        int[] noAsks = {-1, -2, 1, 2, 8, 9, 16, 17, 100, Integer.MIN_VALUE, Integer.MAX_VALUE};
        Scene none = new Scene(Scene::empty);
        none.refusedEach("boxes()", KidGloves::boxes, STATE, 0, 10, 11, 12, 13, 14, 15);
        none.refusedEach("boxes(), of both the first", KidGloves::boxes, OUTSIDE, noAsks);
        none.end();
        Scene busy = new Scene(Scene::busy);
        busy.refusedEach("boxes()", KidGloves::boxes, OUTSIDE, noAsks);
        busy.end();
        Scene full = new Scene(Scene::full);
        full.refusedEach("boxes()", KidGloves::boxes, OUTSIDE, noAsks);
        full.end();
    }

    private static void boxesAsked() {
        Check.sentence("what = 0 how many, 10 to 15 in which GLOVE 0 to 5 is (NONE: there is none such)");
        KidGloves x = Check.shop("g0,g4,g8,g1,g5,g9;0");
        Check.due("boxes(0)", x.boxes(0), 3);
        Check.row("boxes(10 to 15)", glove -> x.boxes(10 + glove), 0, 1, 2, 0, 1, 2);
        KidGloves y = Check.shop("g0,g3;0");
        Check.due("boxes(0)", y.boxes(0), 1);
        Check.row("boxes(10 to 15)", glove -> y.boxes(10 + glove), 0, 0, NONE, NONE, NONE, NONE);
        KidGloves z = Check.shop("g0,g4,g8,g1,g5;0");
        Check.row("boxes(10 to 15)", glove -> z.boxes(10 + glove), 0, 1, 2, 0, 1, NONE);
    }

    private static void oddsUnknown() {
        Check.sentence("in lowest terms (0 of 1). UNKNOWN: wearer;");
        Scene none = new Scene(Scene::empty);
        none.refused("odds(0, 1, 0, 0)", x -> x.odds(0, 1, 0, 0), UNKNOWN);
        none.refused("odds(0, 0, 11, 2)", x -> x.odds(0, 0, 11, 2), UNKNOWN);
        none.end();
        Scene busy = new Scene(Scene::busy);
        busy.refusedEach("odds(.., 1, 0, 0)", (x, wearer) -> x.odds(wearer, 1, 0, 0), UNKNOWN, Check.beside(0, 1));
        busy.refusedEach("odds(.., 8, 10, 1)", (x, wearer) -> x.odds(wearer, 8, 10, 1), UNKNOWN, Check.beside(0, 1));
        Check.sentence("UNKNOWN: wearer; OUTSIDE: hours (1 to 8), tenths (0 to 10), what. - of both the first");
        for (int wearer : new int[] {-1, 2}) {
            String call = "odds(" + wearer + ", ";
            busy.refusedEach(call + ".., 0, 0)", (x, hours) -> x.odds(wearer, hours, 0, 0), UNKNOWN, Check.beside(1, 8));
            busy.refusedEach(call + "1, .., 0)", (x, tenths) -> x.odds(wearer, 1, tenths, 0), UNKNOWN, Check.beside(0, 10));
            busy.refusedEach(call + "1, 0, ..)", (x, what) -> x.odds(wearer, 1, 0, what), UNKNOWN, Check.beside(0, 1));
        }
        busy.end();
    }

    private static void oddsOutside() {
        Check.sentence("OUTSIDE: hours (1 to 8), tenths (0 to 10), what.");
        Scene busy = new Scene(Scene::busy);
        busy.refusedEach("odds(0, .., 0, 0)", (x, hours) -> x.odds(0, hours, 0, 0), OUTSIDE, Check.beside(1, 8));
        busy.refusedEach("odds(1, .., 10, 1)", (x, hours) -> x.odds(1, hours, 10, 1), OUTSIDE, Check.beside(1, 8));
        busy.refusedEach("odds(0, 1, .., 0)", (x, tenths) -> x.odds(0, 1, tenths, 0), OUTSIDE, Check.beside(0, 10));
        busy.refusedEach("odds(1, 8, .., 1)", (x, tenths) -> x.odds(1, 8, tenths, 1), OUTSIDE, Check.beside(0, 10));
        busy.refusedEach("odds(0, 1, 0, ..)", (x, what) -> x.odds(0, 1, 0, what), OUTSIDE, Check.beside(0, 1));
        busy.refusedEach("odds(1, 8, 10, ..)", (x, what) -> x.odds(1, 8, 10, what), OUTSIDE, Check.beside(0, 1));
        busy.refused("odds(0, 9, 11, 2)", x -> x.odds(0, 9, 11, 2), OUTSIDE);
        busy.end();
    }

    private static void oddsAre(KidGloves x, int wearer, int hours, int tenths, int above, int below) {
        String call = "odds(" + wearer + ", " + hours + ", " + tenths + ", ";
        Check.due(call + "0)", x.odds(wearer, hours, tenths, 0), above);
        Check.due(call + "1)", x.odds(wearer, hours, tenths, 1), below);
    }

    /** WEARER 0 BUTTS from AGE 1 on, WEARER 1 from AGE 8 on, WEARER 2 does now and at no other AGE. */
    private static KidGloves oddly() {
        KidGloves x = Check.shop("k8,k1,o9;666");
        for (int glove = 0; glove < 3; glove++) {
            x.wear(glove, glove, 0);
        }
        return x;
    }

    private static void oddsByHours() {
        Check.sentence("so many HOURS (1 to 8) .. in each HOUR he keeps all on with so many tenths of 10, each HOUR by itself");
        KidGloves x = oddly();
        oddsAre(x, 0, 1, 5, 1, 2);
        oddsAre(x, 0, 2, 5, 3, 4);
        oddsAre(x, 0, 8, 5, 255, 256);
        oddsAre(x, 1, 1, 5, 0, 1);
        oddsAre(x, 1, 7, 5, 0, 1);
        oddsAre(x, 1, 8, 5, 1, 256);
        oddsAre(x, 2, 1, 5, 1, 2);
        oddsAre(x, 2, 8, 5, 1, 256);
        Check.due("HOURS behind all", x.count(3), 0);
        Check.sentence("(and are no more of AGE)");
        Check.row("AGES behind all", glove -> x.glove(glove, 2), 0, 0, 0);
    }

    private static void oddsByTenths() {
        Check.sentence("tenths (0 to 10)");
        KidGloves x = oddly();
        oddsAre(x, 0, 1, 0, 0, 1);
        oddsAre(x, 0, 1, 1, 1, 10);
        oddsAre(x, 0, 1, 9, 9, 10);
        oddsAre(x, 0, 1, 10, 1, 1);
        oddsAre(x, 0, 8, 0, 0, 1);
        oddsAre(x, 0, 8, 10, 1, 1);
        oddsAre(x, 1, 8, 0, 0, 1);
        oddsAre(x, 1, 8, 10, 1, 1);
        oddsAre(x, 1, 7, 10, 0, 1);
        oddsAre(x, 2, 1, 0, 1, 1);
        oddsAre(x, 2, 1, 10, 0, 1);
        oddsAre(x, 2, 8, 0, 1, 1);
        oddsAre(x, 2, 8, 10, 0, 1);
    }

    private static void oddsInLowestTerms() {
        Check.sentence("what = 0 above, 1 below, in lowest terms (0 of 1).");
        KidGloves x = oddly();
        oddsAre(x, 0, 8, 9, 99999999, 100000000);
        oddsAre(x, 0, 8, 1, 56953279, 100000000);
        oddsAre(x, 0, 8, 2, 325089, 390625);
        oddsAre(x, 1, 8, 1, 1, 100000000);
        oddsAre(x, 1, 8, 2, 1, 390625);
        oddsAre(x, 1, 8, 9, 43046721, 100000000);
        oddsAre(x, 2, 8, 1, 43046721, 100000000);
        oddsAre(x, 2, 8, 9, 1, 100000000);
        KidGloves bare = Check.shop("g0,g0;90");
        oddsAre(bare, 0, 8, 5, 0, 1);
        oddsAre(bare, 1, 1, 9, 0, 1);
        KidGloves sure = Check.shop("g9,g0;6");
        sure.wear(0, 0, 0);
        oddsAre(sure, 0, 8, 3, 1, 1);
        oddsAre(sure, 0, 1, 0, 1, 1);
    }
}
