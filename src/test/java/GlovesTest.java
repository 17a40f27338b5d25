/** Promises 6 to 8: GLOVES and WEARERS. */
public final class GlovesTest {
    private static final int NONE = KidGloves.NONE;

    public static void main(String[] args) {
        gloveRefusals();
        tempersByHours();
        tempersAtTheEdges();
        ageEndsAtTwenty();
        whoHasIt();
        quarrels();
        marks();
        feel();
        as();
        wearerRefusals();
        doing();
        wished();
        changes();
        wearerAsHeIsNow();
        Check.end("GlovesTest");
    }

    private static void gloveRefusals() {
        KidGloves x = Check.shop("g5,k5;4");
        Check.each("glove(.., 0)", glove -> x.glove(glove, 0), KidGloves.UNKNOWN,
            2, 6, -1, Integer.MIN_VALUE, Integer.MAX_VALUE);
        Check.each("glove(0, ..)", what -> x.glove(0, what), KidGloves.OUTSIDE,
            9, -1, Integer.MIN_VALUE, Integer.MAX_VALUE);
        Check.due("glove(2, 9)", x.glove(2, 9), KidGloves.UNKNOWN);
    }

    private static void tempersByHours() {
        KidGloves x = Check.shop("g5,k5,d8,o3,l2,k5;470");
        x.wear(0, 0, 0);
        x.wear(1, 0, 1);
        x.wear(2, 1, 0);
        x.wear(3, 1, 1);
        x.wear(4, 2, 0);
        int[][] tempers = {
            {5, 5, 0, 3, 2, 5}, {5, 6, 8, 2, 4, 5}, {5, 7, 0, 1, 6, 5}, {5, 8, 8, 0, 8, 5}, {5, 9, 0, 0, 9, 5},
            {5, 9, 8, 0, 9, 5}, {5, 9, 0, 0, 9, 5}};
        for (int hours = 0; hours < tempers.length; hours++) {
            Check.row("TEMPER at HOUR " + hours, glove -> x.glove(glove, 3), tempers[hours]);
            Check.row("AGE at HOUR " + hours, glove -> x.glove(glove, 2), hours, hours, hours, hours, hours, 0);
            x.hour();
        }
        Check.row("MARKS are as they were", glove -> x.glove(glove, 1), 5, 5, 8, 3, 2, 5);
        Check.row("KINDS are as they were", glove -> x.glove(glove, 0), 0, 1, 2, 3, 4, 1);
    }

    private static void tempersAtTheEdges() {
        KidGloves x = Check.shop("k9,l9,l8,l7,o0,o1;000");
        for (int glove = 0; glove < 6; glove++) {
            x.wear(glove, glove / 2, glove % 2);
        }
        Check.row("TEMPER", glove -> x.glove(glove, 3), 9, 9, 8, 7, 0, 1);
        x.hour();
        Check.row("TEMPER behind an HOUR", glove -> x.glove(glove, 3), 9, 9, 9, 9, 0, 0);
        x.hour();
        Check.row("TEMPER behind two", glove -> x.glove(glove, 3), 9, 9, 9, 9, 0, 0);
    }

    private static void ageEndsAtTwenty() {
        KidGloves x = Check.shop("d7,g1;0");
        x.wear(0, 0, 0);
        Check.hours(x, 19);
        Check.due("AGE behind 19", x.glove(0, 2), 19);
        Check.due("TEMPER behind 19", x.glove(0, 3), 7);
        x.hour();
        Check.due("AGE behind 20", x.glove(0, 2), 20);
        Check.due("TEMPER behind 20", x.glove(0, 3), 0);
        x.hour();
        Check.due("AGE behind 21", x.glove(0, 2), 20);
        Check.due("TEMPER behind 21", x.glove(0, 3), 0);
        Check.due("HOURS", x.count(3), 21);
    }

    private static void whoHasIt() {
        KidGloves x = Check.shop("g5,k5;470");
        Check.row("glove(0, ..)", what -> what < 4 ? 0 : x.glove(0, what), 0, 0, 0, 0, NONE, NONE);
        x.wear(0, 2, 1);
        Check.due("glove(0, 4)", x.glove(0, 4), 2);
        Check.due("glove(0, 5)", x.glove(0, 5), 1);
        Check.due("glove(1, 4)", x.glove(1, 4), NONE);
        x.off(0);
        Check.due("glove(0, 4) behind off()", x.glove(0, 4), NONE);
        Check.due("glove(0, 5) behind off()", x.glove(0, 5), NONE);
    }

    private static void quarrels() {
        KidGloves x = Check.shop("g0,g3,g4,g7,g8,d9;0");
        Check.row("QUARRELS", glove -> x.glove(glove, 6),
            0b011100, 0b011000, 0b110001, 0b100011, 0b100111, 0b011100);
        x.wear(5, 0, 0);
        x.hour();
        Check.row("QUARRELS behind an HOUR", glove -> x.glove(glove, 6),
            0b111100, 0b111000, 0b110001, 0b000011, 0b000111, 0b000111);
    }

    private static void marks() {
        KidGloves x = Check.shop("g1,k1,d1,o1,l1;0");
        Check.row("MARKS at first", glove -> x.glove(glove, 7), 1023, 1023, 1023, 1023, 1023);
        x.see(0, 9, 7);
        x.see(1, 3, 9);
        x.see(2, 2, 0);
        x.see(3, 4, 0);
        x.see(4, 3, 9);
        Check.row("MARKS", glove -> x.glove(glove, 7), 0b10000000, 0b1111000000, 1023, 0b11111, 0b1111111000);
        x.see(1, 1, 8);
        x.see(2, 1, 0);
        x.see(3, 1, 2);
        Check.row("MARKS behind more", glove -> x.glove(glove, 7), 0b10000000, 0b10000000, 1, 0b1000, 0b1111111000);
        x.forget();
        Check.row("MARKS behind forget()", glove -> x.glove(glove, 7), 1023, 1023, 1023, 1023, 1023);

        KidGloves y = Check.shop("k1,d1;0");
        y.see(0, 0, 5);
        y.see(1, 0, 3);
        Check.row("MARKS at AGE 0", glove -> y.glove(glove, 7), 1 << 5, 0);
        y.wear(0, 0, 0);
        y.wear(1, 0, 1);
        y.hour();
        Check.row("MARKS at AGE 1, all else as it is now", glove -> y.glove(glove, 7), 1 << 4, 1 << 3);
        y.book(0, 9);
        Check.due("MARKS do not go by the MARK", y.glove(0, 7), 1 << 4);
        Check.hours(y, 18);
        y.forget();
        y.see(1, 2, 0);
        Check.due("MARKS, AGE being 20 at most", y.glove(1, 7), 1023);
        y.see(1, 0, 6);
        Check.due("MARKS at AGE 19", y.glove(1, 7), 1 << 6);
    }

    private static void feel() {
        KidGloves x = Check.shop("g1,k1,d1,o1,l1;0");
        Check.row("FEEL at first", glove -> x.glove(glove, 8), 0, 0, 1, 0, 0);
        x.see(2, 0, 5);
        Check.due("FEEL, if there are no MARKS", x.glove(2, 8), NONE);
        x.see(0, 0, 5);
        Check.due("FEEL, if there is one", x.glove(0, 8), 0);
        x.wear(2, 0, 0);
        x.hour();
        x.forget();
        Check.due("FEEL of a DOE of AGE 1", x.glove(2, 8), 0);
        x.hour();
        Check.due("FEEL of a DOE of AGE 2", x.glove(2, 8), 1);
        x.see(2, 1, 4);
        Check.due("FEEL of a DOE of one MARK", x.glove(2, 8), 0);
        x.forget();
        Check.hours(x, 18);
        Check.due("FEEL of a DOE of AGE 20", x.glove(2, 8), 0);

        KidGloves y = Check.shop("k1,o9;0");
        y.wear(0, 0, 0);
        y.wear(1, 0, 1);
        Check.hours(y, 12);
        Check.row("FEEL, if all is alike", glove -> y.glove(glove, 8), 0, 0);
    }

    private static void as() {
        KidGloves x = Check.shop("g5,k5,d8,o3,l2;0");
        int[][] due = {{0, NONE, NONE, NONE, NONE}, {1, 1, NONE, NONE, NONE}, {2, NONE, 2, NONE, NONE},
            {3, NONE, NONE, 3, NONE}, {4, 4, NONE, NONE, 4}};
        for (int glove = 0; glove < due.length; glove++) {
            int of = glove;
            Check.row("as(" + glove + ", ..)", kind -> x.as(of, kind), due[glove]);
        }
        Check.each("as(.., 0)", glove -> x.as(glove, 0), KidGloves.UNKNOWN, 5, -1, Integer.MAX_VALUE, Integer.MIN_VALUE);
        Check.each("as(0, ..)", kind -> x.as(0, kind), KidGloves.OUTSIDE, 5, -1, Integer.MAX_VALUE, Integer.MIN_VALUE);
        Check.due("as(5, 5)", x.as(5, 5), KidGloves.UNKNOWN);
    }

    private static void wearerRefusals() {
        KidGloves x = Check.shop("g5,k5;47");
        Check.each("wearer(.., 0)", wearer -> x.wearer(wearer, 0), KidGloves.UNKNOWN,
            2, -1, Integer.MIN_VALUE, Integer.MAX_VALUE);
        Check.each("wearer(0, ..)", what -> x.wearer(0, what), KidGloves.OUTSIDE,
            9, -1, Integer.MIN_VALUE, Integer.MAX_VALUE);
        Check.due("wearer(2, 9)", x.wearer(2, 9), KidGloves.UNKNOWN);
    }

    private static void doing() {
        KidGloves x = Check.shop("g1,g5,g6,g7;88");
        Check.row("wearer(0, ..)", what -> x.wearer(0, what), 8, 8, NONE, NONE, 0, 2, 1, 0, 0);
        x.wear(0, 0, 0);
        Check.row("wearer(0, ..), 9", what -> x.wearer(0, what), 8, 9, 0, NONE, 2, 2, 1, 1, 0);
        x.off(0);
        x.wear(2, 0, 1);
        Check.row("wearer(0, ..), 14", what -> x.wearer(0, what), 8, 14, NONE, 2, 2, 2, 1, 1, 0);
        x.wear(3, 1, 0);
        Check.row("wearer(1, ..), 15", what -> x.wearer(1, what), 8, 15, 3, NONE, 1, 2, 1, 1, 0);
        x.wear(0, 1, 1);
        Check.row("wearer(1, ..), with a quarrel", what -> x.wearer(1, what), 8, 19, 3, 0, 1, 2, 1, 2, 0);
        x.off(3);
        x.wear(1, 1, 0);
        Check.due("wearer(1, 1), 4 apart", x.wearer(1, 1), 17);

        KidGloves y = Check.shop("g2,g5;0");
        y.wear(0, 0, 0);
        y.wear(1, 0, 1);
        Check.due("wearer(0, 1), 3 apart", y.wearer(0, 1), 7);
    }

    private static void wished() {
        KidGloves x = Check.shop("g6,g7;8");
        int[][] due = {{1, 0, 1}, {0, 0, 1}, {0, 1, 1}};
        for (int stage = 0; stage < due.length; stage++) {
            for (int wish = 0; wish <= 2; wish++) {
                x.wish(0, 8, wish);
                Check.due("wearer(0, 6), stage " + stage, x.wearer(0, 6), due[stage][wish]);
                Check.due("wearer(0, 5), stage " + stage, x.wearer(0, 5), wish);
            }
            if (stage == 1) {
                x.off(0);
            }
            x.wear(stage, 0, 0);
        }
    }

    private static void changes() {
        KidGloves x = Check.shop("g5,g5,g3,g0;49");
        changesAre(x, 0, 0, 0);
        changesAre(x, 1, NONE, NONE);
        x.wear(3, 0, 0);
        changesAre(x, 0, 0, 0b1000);
        x.wear(0, 0, 1);
        changesAre(x, 0, 1, 0b1000);
        x.off(3);
        x.wear(2, 0, 0);
        changesAre(x, 0, 1, 0b0100);
        x.wish(0, 3, 2);
        changesAre(x, 0, 1, 0b0001);
        x.wish(0, 6, 2);
        changesAre(x, 0, 2, 0);
        x.wish(1, 0, 2);
        x.wear(1, 1, 0);
        x.wear(3, 1, 1);
        changesAre(x, 1, 0, 0b1010);
        x.hour();
        x.wish(1, 1, 2);
        changesAre(x, 1, 1, 0b0010);
    }

    private static void wearerAsHeIsNow() {
        KidGloves x = Check.shop("k6,k7,o7;818");
        x.wish(0, 8, 1);
        x.wish(1, 1, 0);
        x.wish(2, 8, 1);
        x.wear(0, 0, 0);
        x.wear(1, 1, 0);
        x.wear(2, 2, 1);
        Check.row("wearer(0, ..), 14", what -> x.wearer(0, what), 8, 14, 0, NONE, 2, 1, 0, 1, 0);
        Check.row("wearer(1, ..), 8", what -> x.wearer(1, what), 1, 8, 1, NONE, 0, 0, 1, 0, 0b010);
        Check.row("wearer(2, ..), 15", what -> x.wearer(2, what), 8, 15, NONE, 2, 1, 1, 1, 1, 0);
        Check.due("count(6)", x.count(6), 2);
        x.hour();
        Check.row("wearer(0, ..), 15", what -> x.wearer(0, what), 8, 15, 0, NONE, 1, 1, 1, 1, 0);
        Check.row("wearer(1, ..), 9", what -> x.wearer(1, what), 1, 9, 1, NONE, 2, 0, 0, 1, 0);
        Check.row("wearer(2, ..), 14", what -> x.wearer(2, what), 8, 14, NONE, 2, 2, 1, 0, 1, 0);
        Check.due("count(6)", x.count(6), 1);
    }

    private static void changesAre(KidGloves x, int wearer, int howFew, int bits) {
        Check.due("wearer(" + wearer + ", 7)", x.wearer(wearer, 7), howFew);
        Check.due("wearer(" + wearer + ", 8)", x.wearer(wearer, 8), bits);
    }
}
