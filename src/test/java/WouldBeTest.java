/** Promises 14 to 17: what would be. */
public final class WouldBeTest {
    private static final int NONE = KidGloves.NONE;
    private static final int[] FAR = {-1, 100, Integer.MIN_VALUE, Integer.MAX_VALUE};

    public static void main(String[] args) {
        mood();
        dressRefusals();
        dressTwentyTimes();
        dress();
        dressAsTheyAreNow();
        dressOfTheNextShop();
        boxesRefusals();
        boxes();
        oddsRefusals();
        odds();
        Check.end("WouldBeTest");
    }

    private static void mood() {
        KidGloves x = Check.shop("k5,o3,d8,l0,g2;406");
        Check.each("mood(.., 0)", wearer -> x.mood(wearer, 0), KidGloves.UNKNOWN, FAR);
        Check.each("mood(0, ..)", hours -> x.mood(0, hours), KidGloves.OUTSIDE, FAR);
        Check.due("mood(0, 41)", x.mood(0, 41), KidGloves.OUTSIDE);
        Check.due("mood(3, 41)", x.mood(3, 41), KidGloves.UNKNOWN);
        x.wear(0, 0, 0);
        x.wear(1, 0, 1);
        x.wear(2, 1, 0);
        x.wear(3, 1, 1);
        Check.row("mood(0, ..)", hours -> x.mood(0, hours), 12, 15, 15, 15, 16, 16, 16);
        Check.row("mood(1, ..)", hours -> x.mood(1, hours), 0, 13, 7, 14, 11, 17, 12);
        Check.row("mood(2, ..), nothing on", hours -> x.mood(2, hours), 6, 6, 6);
        Check.due("mood(0, 40)", x.mood(0, 40), 16);
        Check.due("mood(1, 19)", x.mood(1, 19), 17);
        Check.due("mood(1, 20)", x.mood(1, 20), 12);
        Check.due("mood(1, 21)", x.mood(1, 21), 12);
        Check.due("count(3) behind all", x.count(3), 0);
        Check.due("glove(0, 2) behind all", x.glove(0, 2), 0);
        x.hour();
        Check.row("mood(1, ..) from AGE 1", hours -> x.mood(1, hours), 13, 7, 14, 11);
        Check.due("mood(1, 18) from AGE 1", x.mood(1, 18), 17);
        Check.due("mood(1, 19) from AGE 1", x.mood(1, 19), 12);
        Check.due("mood(1, 20) from AGE 1", x.mood(1, 20), 12);
    }

    private static void dressRefusals() {
        KidGloves x = new KidGloves();
        Check.due("dress(0) without a SHOP", x.dress(0), KidGloves.STATE);
        Check.due("dress(10) without a SHOP", x.dress(10), KidGloves.STATE);
        Check.due("dress(9) without a SHOP", x.dress(9), KidGloves.OUTSIDE);
        Check.read(x, "g5,g5;0");
        Check.each("dress()", x::dress, KidGloves.OUTSIDE, FAR);
        Check.each("dress()", x::dress, KidGloves.OUTSIDE, 2, 3, 9, 16, 17);
        Check.due("count(12) behind refusals", x.count(12), 0);
    }

    private static void dressTwentyTimes() {
        KidGloves x = Check.shop("g5,g5;0");
        x.image();
        for (int times = 1; times <= 20; times++) {
            Check.due("dress(15)", x.dress(15), NONE);
            Check.due("dress(2)", x.dress(2), KidGloves.OUTSIDE);
            Check.due("count(12)", x.count(12), times);
            if (times == 10) {
                x.restore();
            }
            if (times == 15) {
                Check.read(x, "g5,g5;0");
                x.image();
            }
        }
        Check.due("dress(0) the 21st time", x.dress(0), KidGloves.STATE);
        Check.due("dress(2) the 21st time", x.dress(2), KidGloves.OUTSIDE);
        x.restore();
        Check.due("dress(0) behind restore()", x.dress(0), KidGloves.STATE);
        Check.read(x, "g5,g5;0");
        Check.due("dress(0) behind shop()", x.dress(0), KidGloves.STATE);
        Check.due("count(12)", x.count(12), 20);
    }

    private static void dress() {
        dressIs("g5,g5;0", new int[] {2}, 1, 0, NONE, NONE);
        dressIs("g7,g8,g9;06", new int[] {1, 1}, 2, 3, 0, 0, 1);
        dressIs("g7,g8,g9;60", new int[] {1, 1}, 2, 3, 1, 1, 0);
        dressIs("g9,g9,g1;66", new int[] {1, 1}, 2, 2, 0, 1, NONE);
        dressIs("g9,g9,g9;6", new int[] {1}, 1, 1, NONE, NONE, 0);
        dressIs("g2,g6;6", new int[] {1}, 1, 2, 0, 0);
        dressIs("g2,g5;6", new int[] {1}, 0, 0, NONE, NONE);
        dressIs("g9,g9;90", new int[] {0, 0}, 1, 0, NONE, NONE);
        dressIs("g6,g5;99", new int[] {1, 2}, 2, 1, 0, NONE);
        dressIs("g5,g6;99", new int[] {2, 1}, 2, 1, NONE, 1);
        dressIs("g5,g4,g6;0", new int[] {1}, 0, 0, NONE, NONE, NONE);
        dressIs("g9,g9,g9,g9,g9,g9;000", new int[] {1, 1, 1}, 3, 6, 0, 0, 1, 1, 2, 2);
        dressIs("d9,d9;9", new int[] {1}, 0, 0, NONE, NONE);
        dressIs("g9,g0,g9,g3,g9;606", new int[] {1, 0, 1}, 3, 2, NONE, NONE, 0, NONE, 2);
    }

    private static void dressIs(String text, int[] wishes, int howMany, int gloves, int... to) {
        KidGloves x = Check.shop(text);
        for (int wearer = 0; wearer < wishes.length; wearer++) {
            x.wish(wearer, x.wearer(wearer, 0), wishes[wearer]);
        }
        long before = x.digest();
        Check.due("dress(0) of " + text, x.dress(0), howMany);
        Check.due("dress(1) of " + text, x.dress(1), gloves);
        for (int glove = 0; glove < 6; glove++) {
            int due = glove < to.length ? to[glove] : NONE;
            Check.due("dress(" + (10 + glove) + ") of " + text, x.dress(10 + glove), due);
        }
        Check.due("digest(), but for count(12)", x.digest(), before + 8);
    }

    private static void dressAsTheyAreNow() {
        KidGloves x = Check.shop("k5,g9,g0;09");
        x.wear(0, 1, 0);
        x.wear(1, 1, 1);
        x.wish(0, 0, 1);
        Check.due("dress(0), of what others have on", x.dress(0), 2);
        Check.due("dress(1)", x.dress(1), 2);
        Check.row("dress(10 ..)", glove -> x.dress(10 + glove), 0, 0, NONE);
        x.wish(0, 6, 1);
        Check.row("dress(10 ..), MARK 5", glove -> x.dress(10 + glove), NONE, 0, NONE);
        Check.hours(x, 4);
        Check.row("dress(10 ..), TEMPER 9", glove -> x.dress(10 + glove), NONE, 0, NONE);
        x.book(1, 0);
        Check.row("dress(10 ..), only it left", glove -> x.dress(10 + glove), 0, NONE, NONE);
        Check.row("who has them is as it was", glove -> x.glove(glove, 4), 1, 1, NONE);
    }

    private static void dressOfTheNextShop() {
        KidGloves x = Check.shop("g9,g9,g9,g9,g9,g9;666");
        for (int wearer = 0; wearer < 3; wearer++) {
            x.wish(wearer, 6, 1);
        }
        Check.due("dress(0) of the first", x.dress(0), 3);
        Check.due("boxes(0) of the first", x.boxes(0), 1);
        Check.read(x, "g0,g9,g4;6");
        x.wish(0, 6, 1);
        Check.row("dress() of the next", x::dress, 1, 1);
        Check.row("dress(10 ..) of the next", glove -> x.dress(10 + glove), NONE, 0, NONE, NONE, NONE, NONE);
        Check.due("boxes(0) of the next", x.boxes(0), 3);
        Check.row("boxes(10 ..) of the next", glove -> x.boxes(10 + glove), 0, 1, 2, NONE, NONE, NONE);
    }

    private static void boxesRefusals() {
        KidGloves x = new KidGloves();
        Check.due("boxes(0) without a SHOP", x.boxes(0), KidGloves.STATE);
        Check.due("boxes(15) without a SHOP", x.boxes(15), KidGloves.STATE);
        Check.due("boxes(16) without a SHOP", x.boxes(16), KidGloves.OUTSIDE);
        Check.read(x, "g5,g5;0");
        Check.each("boxes()", x::boxes, KidGloves.OUTSIDE, FAR);
        Check.each("boxes()", x::boxes, KidGloves.OUTSIDE, 1, 2, 9, 16, 17);
    }

    private static void boxes() {
        boxesAre("g5,g5;0", 1, 0, 0);
        boxesAre("g0,g4,g8;0", 3, 0, 1, 2);
        boxesAre("g0,g3,g6;0", 2, 0, 0, 1);
        boxesAre("g6,g0,g3;0", 2, 0, 1, 0);
        boxesAre("g3,g6,g0,g9;0", 2, 0, 1, 0, 1);
        boxesAre("g9,g8,g7,g6,g5,g4;0", 2, 0, 0, 0, 0, 1, 1);
        boxesAre("g0,g4,g8,g0,g4,g8;0", 3, 0, 1, 2, 0, 1, 2);
        boxesAre("d9,g0,g1,g2,g3,g4;0", 2, 0, 0, 0, 0, 0, 1);

        KidGloves x = Check.shop("d9,g0,g5;0");
        x.wear(0, 0, 0);
        Check.row("boxes(10 ..) at AGE 0", glove -> x.boxes(10 + glove), 0, 0, 1, NONE, NONE, NONE);
        x.hour();
        Check.row("boxes(10 ..) at AGE 1", glove -> x.boxes(10 + glove), 0, 1, 2, NONE, NONE, NONE);
        Check.due("boxes(0) at AGE 1", x.boxes(0), 3);
    }

    private static void boxesAre(String text, int howFew, int... in) {
        KidGloves x = Check.shop(text);
        Check.due("boxes(0) of " + text, x.boxes(0), howFew);
        for (int glove = 0; glove < 6; glove++) {
            int due = glove < in.length ? in[glove] : NONE;
            Check.due("boxes(" + (10 + glove) + ") of " + text, x.boxes(10 + glove), due);
        }
    }

    private static void oddsRefusals() {
        KidGloves x = Check.shop("g5,g5;00");
        Check.each("odds(.., 1, 0, 0)", wearer -> x.odds(wearer, 1, 0, 0), KidGloves.UNKNOWN, FAR);
        Check.each("odds(0, .., 0, 0)", hours -> x.odds(0, hours, 0, 0), KidGloves.OUTSIDE, FAR);
        Check.each("odds(0, 1, .., 0)", tenths -> x.odds(0, 1, tenths, 0), KidGloves.OUTSIDE, FAR);
        Check.each("odds(0, 1, 0, ..)", what -> x.odds(0, 1, 0, what), KidGloves.OUTSIDE, FAR);
        Check.due("odds(2, 9, 0, 0)", x.odds(2, 9, 0, 0), KidGloves.UNKNOWN);
        Check.due("odds(0, 0, 0, 0)", x.odds(0, 0, 0, 0), KidGloves.OUTSIDE);
        Check.due("odds(0, 9, 0, 0)", x.odds(0, 9, 0, 0), KidGloves.OUTSIDE);
        Check.due("odds(0, 1, 11, 0)", x.odds(0, 1, 11, 0), KidGloves.OUTSIDE);
        Check.due("odds(0, 1, 0, 2)", x.odds(0, 1, 0, 2), KidGloves.OUTSIDE);
    }

    private static void odds() {
        KidGloves x = Check.shop("k5,o3,d9,g9;466");
        x.wear(0, 0, 0);
        x.wear(1, 0, 1);
        x.wear(2, 1, 0);
        x.wear(3, 2, 0);
        oddsAre(x, 0, 1, 0, 0, 1);
        oddsAre(x, 0, 1, 5, 1, 2);
        oddsAre(x, 0, 1, 3, 3, 10);
        oddsAre(x, 0, 1, 10, 1, 1);
        oddsAre(x, 0, 2, 5, 3, 4);
        oddsAre(x, 0, 2, 3, 51, 100);
        oddsAre(x, 0, 8, 1, 56953279, 100000000);
        oddsAre(x, 0, 8, 0, 0, 1);
        oddsAre(x, 0, 8, 10, 1, 1);
        oddsAre(x, 1, 1, 10, 1, 1);
        oddsAre(x, 1, 2, 10, 0, 1);
        oddsAre(x, 1, 2, 5, 1, 2);
        oddsAre(x, 1, 2, 3, 21, 50);
        oddsAre(x, 1, 8, 1, 325089, 781250);
        oddsAre(x, 2, 8, 3, 1, 1);
        oddsAre(x, 2, 1, 0, 1, 1);
        Check.due("count(3) behind all", x.count(3), 0);
        x.hour();
        oddsAre(x, 1, 1, 0, 1, 1);
        oddsAre(x, 1, 1, 3, 7, 10);
        Check.hours(x, 18);
        oddsAre(x, 1, 1, 3, 7, 10);
        oddsAre(x, 1, 3, 10, 0, 1);
        oddsAre(x, 1, 3, 5, 1, 8);
    }

    private static void oddsAre(KidGloves x, int wearer, int hours, int tenths, int above, int below) {
        String call = "odds(" + wearer + ", " + hours + ", " + tenths + ", ";
        Check.due(call + "0)", x.odds(wearer, hours, tenths, 0), above);
        Check.due(call + "1)", x.odds(wearer, hours, tenths, 1), below);
    }
}
