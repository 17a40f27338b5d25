/** The edges that 'What it is' and 'Terms' name, sentence by sentence: what is so still, and what is no more. */
public final class TermsEdgesTest {
    private static final int NONE = KidGloves.NONE;
    private static final String DIGITS = "0123456789";
    private static final String KINDS = "gkdol";

    public static void main(String[] args) {
        glovesOfAShop();
        nervesOfAShop();
        lettersOfAShop();
        calls();
        atFirst();
        kinds();
        ageOnHands();
        ageInWhatWouldBe();
        ageInWhatIsSeen();
        ageInTeas();
        tempers();
        quarrel();
        hands();
        mood();
        sitsStillOrButts();
        hour();
        wishes();
        dressTwoAtMost();
        dressWithMost();
        dressWithFewest();
        dressFirstByNumbers();
        boxesWithoutAQuarrel();
        boxesFirstByNumbers();
        changesHowFew();
        changesOfWhich();
        changesOfLikeOnes();
        marks();
        feel();
        Check.end("TermsEdgesTest");
    }

    private static void glovesOfAShop() {
        Check.sentence("two to six GLOVES (numbered from 0) with \",\" between");
        noShop(";0", 0);
        noShop("g0;0", 2);
        isShop("g0,k1;0", 2, 1);
        isShop("g0,k1,d2,o3,l4;0", 5, 1);
        isShop("g0,k1,d2,o3,l4,g5;0", 6, 1);
        noShop("g0,k1,d2,o3,l4,g5,k6;0", 17);
        noShop(",g0,k1;0", 0);
        noShop("g0k1;0", 2);
        noShop("g0,,k1;0", 3);
        noShop("g0,k1,;0", 6);
        noShop("g0,k1,d2,o3,l4,g5,;0", 17);
    }

    private static void nervesOfAShop() {
        Check.sentence("then \";\" and one to three digits, the NERVE (0 to 9) of WEARERS 0, 1, 2.");
        noShop("g0,k1", 5);
        noShop("g0,k1;", 6);
        isShop("g0,k1;0", 2, 1);
        isShop("g0,k1;09", 2, 2);
        isShop("g0,k1;098", 2, 3);
        noShop("g0,k1;0987", 9);
        isShop("g0,k1,d2,o3,l4,g5;000", 6, 3);
        noShop("g0,k1,d2,o3,l4,g5;0000", 21);
        KidGloves x = Check.shop("g0,g9;905");
        Check.row("MARKS", glove -> x.glove(glove, 1), 0, 9);
        Check.row("NERVES", wearer -> x.wearer(wearer, 0), 9, 0, 5);
    }

    private static void lettersOfAShop() {
        Check.sentence("each a letter, the KIND, and a digit, its MARK (0 to 9, how the beast lived)");
        onlyThese("", KINDS);
        onlyThese("g", DIGITS);
        onlyThese("g0", ",");
        onlyThese("g0,", KINDS);
        onlyThese("g0,l", DIGITS);
        onlyThese("g0,l9", ",;");
        onlyThese("g0,l9,o5", ",;");
        onlyThese("g0,l9,o5,d2,k7", ",;");
        onlyThese("g0,l9,o5,d2,k7,", KINDS);
        onlyThese("g0,l9,o5,d2,k7,k", DIGITS);
        onlyThese("g0,l9,o5,d2,k7,k1", ";");
        onlyThese("g0,l9;", DIGITS);
        onlyThese("g0,l9;9", DIGITS);
        onlyThese("g0,l9;90", DIGITS);
        onlyThese("g0,l9;905", "");
        onlyThese("g0,l9,o5,d2,k7,k1;", DIGITS);
        onlyThese("g0,l9,o5,d2,k7,k1;905", "");
    }

    private static void noShop(String text, int fault) {
        KidGloves x = new KidGloves();
        Check.type(x, text);
        Check.due("fault() of " + text, x.fault(), fault);
        Check.due("shop() of " + text, x.shop(), KidGloves.STATE);
        Check.due("count(0) behind " + text, x.count(0), 0);
        Check.due("count(10) behind " + text, x.count(10), text.length());
    }

    private static void isShop(String text, int gloves, int wearers) {
        KidGloves x = new KidGloves();
        Check.type(x, text);
        Check.due("fault() of " + text, x.fault(), text.length());
        Check.due("shop() of " + text, x.shop(), gloves);
        Check.row("count() of " + text, x::count, gloves, wearers);
        Check.that("the last GLOVE of " + text, x.glove(gloves - 1, 0) >= 0);
        Check.due("the GLOVE behind it", x.glove(gloves, 0), KidGloves.UNKNOWN);
        Check.that("the last WEARER of " + text, x.wearer(wearers - 1, 0) >= 0);
        Check.due("the WEARER behind it", x.wearer(wearers, 0), KidGloves.UNKNOWN);
    }

    /** Of all 95 letters these alone are right behind those ahead. */
    private static void onlyThese(String ahead, String right) {
        for (char code = 32; code <= 126; code++) {
            KidGloves x = new KidGloves();
            Check.type(x, ahead + code);
            int due = ahead.length() + (right.indexOf(code) >= 0 ? 1 : 0);
            Check.due("fault() of \"" + ahead + code + "\"", x.fault(), due);
        }
    }

    private static void calls() {
        Check.sentence("An object is used for at most 512 calls after it has been made");
        KidGloves x = Check.shop("d7,k1;0");
        x.wear(0, 0, 0);
        x.wear(1, 0, 1);
        Check.hours(x, 498);
        Check.due("hour(), the 509th call", x.hour(), 499);
        Check.due("mood(0, 0), the 510th call", x.mood(0, 0), 12);
        Check.due("count(3), the 511th call", x.count(3), 499);
        Check.due("hour(), the 512th call", x.hour(), 500);
    }

    private static void atFirst() {
        Check.sentence("At first there is none; then nobody has any on, it is HOUR 0.");
        KidGloves x = new KidGloves();
        Check.row("count() at first", x::count, 0, 0, 0, 0, 0, 0, 0, 0, 0);
        Check.due("glove(0, 0) at first", x.glove(0, 0), KidGloves.UNKNOWN);
        Check.due("wearer(0, 0) at first", x.wearer(0, 0), KidGloves.UNKNOWN);
        Check.read(x, "k5,d8,o3,l2,g0,g9;470");
        for (int glove = 0; glove < 6; glove++) {
            Check.due("AGE of GLOVE " + glove, x.glove(glove, 2), 0);
            Check.due("who has GLOVE " + glove, x.glove(glove, 4), NONE);
            Check.due("the hand of GLOVE " + glove, x.glove(glove, 5), NONE);
        }
        for (int wearer = 0; wearer < 3; wearer++) {
            Check.due("the left hand of WEARER " + wearer, x.wearer(wearer, 2), NONE);
            Check.due("the right hand of WEARER " + wearer, x.wearer(wearer, 3), NONE);
        }
        Check.due("GLOVES on hands", x.count(2), 0);
        Check.due("HOURS", x.count(3), 0);
        Check.due("the first HOUR", x.hour(), 1);
    }

    private static void kinds() {
        Check.sentence("0 GLOVE \"g\", 1 KID \"k\", 2 DOE \"d\", 3 OLD \"o\", 4 LAMB \"l\"."
            + " All are GLOVES; a LAMB is a KID, too.");
        KidGloves x = Check.shop("l0,o0,d0,k0,g0;0");
        Check.row("KINDS", glove -> x.glove(glove, 0), 4, 3, 2, 1, 0);
        Check.row("as GLOVES", glove -> x.as(glove, 0), 0, 1, 2, 3, 4);
        Check.row("as KIDS", glove -> x.as(glove, 1), 0, NONE, NONE, 3, NONE);
        Check.row("as DOES", glove -> x.as(glove, 2), NONE, NONE, 2, NONE, NONE);
        Check.row("as OLD ones", glove -> x.as(glove, 3), NONE, 1, NONE, NONE, NONE);
        Check.row("as LAMBS", glove -> x.as(glove, 4), 0, NONE, NONE, NONE, NONE);
    }

    /** The first GLOVE of the text on WEARER 0's left hand for so many HOURS. */
    private static KidGloves worn(String text, int hours) {
        KidGloves x = Check.shop(text);
        x.wear(0, 0, 0);
        Check.hours(x, hours);
        return x;
    }

    private static void ageOnHands() {
        Check.sentence("The AGE of a GLOVE is for how many HOURS it was on a hand (20 at most).");
        for (char kind : KINDS.toCharArray()) {
            KidGloves x = worn(kind + "5,g0;0", 0);
            for (int hours = 0; hours <= 25; hours++) {
                Check.due("AGE of \"" + kind + "\" at HOUR " + hours, x.glove(0, 2), hours < 20 ? hours : 20);
                x.hour();
            }
            x.off(0);
            x.hour();
            Check.due("AGE of \"" + kind + "\" when off", x.glove(0, 2), 20);
        }
        KidGloves x = worn("d7,g1;0", 19);
        Check.due("TEMPER of a DOE of AGE 19", x.glove(0, 3), 7);
        x.hour();
        Check.due("TEMPER of a DOE of AGE 20", x.glove(0, 3), 0);
        x.hour();
        Check.due("TEMPER of a DOE when it would be 21", x.glove(0, 3), 0);
    }

    private static void ageInWhatWouldBe() {
        int[] tempers = {18, 9, 0, 19, 0, 0, 20, 0, 0};
        for (int i = 0; i < tempers.length; i += 3) {
            KidGloves x = worn("d9,g0;6", tempers[i]);
            Check.due("mood(0, 1) from AGE " + tempers[i], x.mood(0, 1), 6 + tempers[i + 1]);
            Check.due("mood(0, 2) from AGE " + tempers[i], x.mood(0, 2), 6 + tempers[i + 2]);
            Check.due("mood(0, 3) from AGE " + tempers[i], x.mood(0, 3), 6);
            Check.due("odds(0, 1, 10, 0) from AGE " + tempers[i], x.odds(0, 1, 10, 0), tempers[i + 1] / 9);
            Check.due("odds(0, 2, 10, 0) from AGE " + tempers[i], x.odds(0, 2, 10, 0), tempers[i + 2] / 9);
            Check.due("odds(0, 3, 10, 0) from AGE " + tempers[i], x.odds(0, 3, 10, 0), 0);
        }
    }

    private static void ageInWhatIsSeen() {
        KidGloves x = worn("d9,g0;6", 10);
        x.see(0, 9, 0);
        Check.due("MARKS, TEMPER 0 SEEN at AGE 10 and 9", x.glove(0, 7), 1);
        x.hour();
        Check.due("MARKS, at AGE 11 and 9", x.glove(0, 7), 1023);
        x.hour();
        Check.due("MARKS, at AGE 12 and 9, which is 20", x.glove(0, 7), 1023);
        Check.hours(x, 7);
        Check.due("FEEL at AGE 19", x.glove(0, 8), 0);
        x.see(0, 0, 9);
        Check.due("MARKS at AGE 19", x.glove(0, 7), 1 << 9);
        x.forget();
        x.hour();
        Check.due("FEEL at AGE 20, where all are alike", x.glove(0, 8), 0);
        x.see(0, 1, 9);
        Check.due("MARKS, at AGE 20 and 1, which is 20", x.glove(0, 7), 0);
    }

    private static void ageInTeas() {
        for (int age = 17; age <= 20; age++) {
            // By this SEED the first DRAW is of GLOVE 1, which WEARER 1 then has: the DOE is left alone.
            KidGloves x = worn("d9,g0;60", age);
            x.wear(1, 1, 0);
            Check.due("teas(1, ..) from AGE " + age, x.teas(1, 1742513795, 0), age == 18 ? 1 : 0);
        }
        KidGloves x = Check.shop("k8,g0;66");
        Check.hours(x, 30);
        x.wear(0, 0, 0);
        x.wear(1, 1, 0);
        Check.due("teas(1, ..) of a KID that lay by for 30 HOURS", x.teas(1, 1742513795, 0), 1);
    }

    private static void tempers() {
        Check.sentence("Its TEMPER is its MARK; of a KID 1 more for each of AGE, 9 at most;");
        tempersAre("g0", 0, 0, 0, 0);
        tempersAre("g9", 9, 9, 9, 9);
        tempersAre("k0", 0, 1, 2, 3, 4, 5, 6, 7, 8, 9, 9, 9);
        tempersAre("k7", 7, 8, 9, 9);
        tempersAre("k8", 8, 9, 9);
        tempersAre("k9", 9, 9, 9);
        Check.sentence("of a LAMB 2 more for each, 9 at most;");
        tempersAre("l0", 0, 2, 4, 6, 8, 9, 9);
        tempersAre("l1", 1, 3, 5, 7, 9, 9, 9);
        tempersAre("l6", 6, 8, 9, 9);
        tempersAre("l7", 7, 9, 9);
        tempersAre("l8", 8, 9, 9);
        tempersAre("l9", 9, 9, 9);
        Check.sentence("of a DOE its MARK if the AGE is odd, else 0;");
        tempersAre("d9", 0, 9, 0, 9, 0);
        tempersAre("d1", 0, 1, 0, 1, 0);
        tempersAre("d0", 0, 0, 0);
        Check.sentence("of an OLD one 1 less for each, 0 at least.");
        tempersAre("o9", 9, 8, 7, 6, 5, 4, 3, 2, 1, 0, 0, 0);
        tempersAre("o2", 2, 1, 0, 0);
        tempersAre("o1", 1, 0, 0);
        tempersAre("o0", 0, 0, 0);
    }

    private static void tempersAre(String glove, int... byAge) {
        KidGloves x = worn(glove + ",g0;0", 0);
        for (int age = 0; age < byAge.length; age++) {
            Check.due("TEMPER of " + glove + " of AGE " + age, x.glove(0, 3), byAge[age]);
            x.hour();
        }
    }

    private static void quarrel() {
        Check.sentence("Two QUARREL, if their TEMPERS are 4 apart, or more.");
        for (int one = 0; one <= 9; one++) {
            for (int other = 0; other <= 9; other++) {
                boolean due = one - other >= 4 || other - one >= 4;
                String text = "g" + one + ",g" + other + ";0";
                KidGloves x = Check.shop(text);
                Check.due("glove(0, 6) of " + text, x.glove(0, 6), due ? 2 : 0);
                Check.due("glove(1, 6) of " + text, x.glove(1, 6), due ? 1 : 0);
                Check.due("count(7) of " + text, x.count(7), due ? 1 : 0);
                Check.due("boxes(0) of " + text, x.boxes(0), due ? 2 : 1);
            }
        }
    }

    private static void hands() {
        Check.sentence("A WEARER has two hands (0 left, 1 right), on each one GLOVE at most.");
        KidGloves x = Check.shop("g1,g2,g3;00");
        x.wear(0, 1, 1);
        Check.row("wearer(1, ..)", what -> x.wearer(1, what), 0, 1, NONE, 0);
        Check.due("a second GLOVE on the right hand", x.wear(1, 1, 1), KidGloves.STATE);
        x.wear(1, 1, 0);
        Check.row("wearer(1, ..), both hands", what -> x.wearer(1, what), 0, 3, 1, 0);
        Check.due("a third GLOVE on the left hand", x.wear(2, 1, 0), KidGloves.STATE);
        Check.due("a third GLOVE on the right hand", x.wear(2, 1, 1), KidGloves.STATE);
        Check.row("the other has none", what -> x.wearer(0, what), 0, 0, NONE, NONE);
        Check.due("the third GLOVE on him", x.wear(2, 0, 0), 3);
    }

    private static void mood() {
        Check.sentence("His MOOD is his NERVE, and the TEMPER of each GLOVE that he has on, and 3 more if these QUARREL.");
        moodsAre("g0,g0;0", 0, 0, 0);
        moodsAre("g0,g3;0", 0, 0, 3);
        moodsAre("g3,g0;0", 0, 3, 3);
        moodsAre("g0,g4;0", 0, 0, 7);
        moodsAre("g4,g0;0", 0, 4, 7);
        moodsAre("g9,g6;9", 9, 18, 24);
        moodsAre("g9,g5;9", 9, 18, 26);
        moodsAre("g9,g0;9", 9, 18, 21);
        moodsAre("g9,g9;9", 9, 18, 27);
        KidGloves x = Check.shop("g0,g9;00");
        x.wear(0, 0, 0);
        Check.due("MOOD, the other having what would QUARREL", x.wear(1, 1, 0), 9);
        Check.due("MOOD of the first", x.wearer(0, 1), 0);
    }

    private static void moodsAre(String text, int bare, int withOne, int withBoth) {
        for (int hand = 0; hand <= 1; hand++) {
            KidGloves x = Check.shop(text);
            Check.due("MOOD of " + text + ", bare", x.wearer(0, 1), bare);
            Check.due("MOOD of " + text + ", with one", x.wear(0, 0, hand), withOne);
            Check.due("MOOD of " + text + ", with both", x.wear(1, 0, 1 - hand), withBoth);
            Check.due("mood(0, 0) of " + text, x.mood(0, 0), withBoth);
        }
    }

    private static void sitsStillOrButts() {
        Check.sentence("He SITS STILL, if it is 8 at most, BUTTS, if it is 15 at least.");
        doesAt("g0,g0;0", 0, 0);
        doesAt("g0,g0;7", 7, 0);
        doesAt("g0,g0;8", 8, 0);
        doesAt("g0,g0;9", 9, 2);
        doesAt("g6,g0;8", 14, 2);
        doesAt("g7,g0;8", 15, 1);
        doesAt("g8,g0;8", 16, 1);
        doesAt("g9,g0;9", 18, 1);
    }

    private static void doesAt(String text, int mood, int what) {
        KidGloves x = Check.shop(text);
        Check.due("MOOD of " + text, x.wear(0, 0, 0), mood);
        Check.due("wearer(0, 4) at " + mood, x.wearer(0, 4), what);
        Check.due("count(4) at " + mood, x.count(4), what == 1 ? 1 : 0);
        Check.due("count(5) at " + mood, x.count(5), what == 0 ? 1 : 0);
        Check.due("odds(0, 1, 0, 0) at " + mood, x.odds(0, 1, 0, 0), what == 1 ? 1 : 0);
        Check.due("CHANGES at " + mood, x.wearer(0, 7) == 0 ? 1 : 0, what == 0 ? 1 : 0);
        for (int wish = 0; wish <= 2; wish++) {
            x.wish(0, x.wearer(0, 0), wish);
            Check.due("wearer(0, 6) at " + mood + ", WISH " + wish, x.wearer(0, 6), wish == 2 || wish == what ? 1 : 0);
        }
    }

    private static void hour() {
        Check.sentence("In an HOUR each GLOVE that is on a hand is 1 more of AGE.");
        KidGloves x = Check.shop("g0,k0,d0,o0,l0,g0;000");
        x.hour();
        Check.row("AGES with all lying by", glove -> x.glove(glove, 2), 0, 0, 0, 0, 0, 0);
        for (int glove = 0; glove < 5; glove++) {
            x.wear(glove, glove / 2, glove % 2);
        }
        x.hour();
        Check.row("AGES with five on", glove -> x.glove(glove, 2), 1, 1, 1, 1, 1, 0);
        x.off(0);
        x.wear(5, 2, 1);
        x.hour();
        Check.row("AGES with another five on", glove -> x.glove(glove, 2), 1, 2, 2, 2, 2, 1);
    }

    private static void wishes() {
        Check.sentence("0 that he SITS STILL, 1 that he BUTTS,"
            + " 2 none (which is always as it should be; at first all have none)");
        KidGloves x = Check.shop("g0,g0;980");
        Check.row("WISHES at first", wearer -> x.wearer(wearer, 5), 2, 2, 2);
        Check.row("as WISHED at first", wearer -> x.wearer(wearer, 6), 1, 1, 1);
        Check.due("count(6) at first", x.count(6), 3);
        for (int wearer = 0; wearer < 3; wearer++) {
            x.wish(wearer, x.wearer(wearer, 0), 0);
        }
        Check.row("that they SIT STILL", wearer -> x.wearer(wearer, 6), 0, 1, 1);
        Check.due("count(6)", x.count(6), 2);
        for (int wearer = 0; wearer < 3; wearer++) {
            x.wish(wearer, x.wearer(wearer, 0), 1);
        }
        Check.row("that they BUTT", wearer -> x.wearer(wearer, 6), 0, 0, 0);
        Check.due("count(6)", x.count(6), 0);
        KidGloves kid = worn("k8,g0;6", 0);
        kid.wish(0, 6, 1);
        Check.due("as WISHED at MOOD 14", kid.wearer(0, 6), 0);
        Check.due("count(6) at MOOD 14", kid.count(6), 0);
        kid.hour();
        Check.due("as WISHED at MOOD 15", kid.wearer(0, 6), 1);
        Check.due("count(6) at MOOD 15", kid.count(6), 1);
    }

    /** DRESS of a SHOP whose WEARERS have these WISHES, a digit for each. */
    private static void dressIs(String text, String wishes, int howMany, int gloves, int... to) {
        KidGloves x = Check.shop(text);
        for (int wearer = 0; wearer < wishes.length(); wearer++) {
            x.wish(wearer, x.wearer(wearer, 0), wishes.charAt(wearer) - '0');
        }
        dressIs(x, text + " by " + wishes, howMany, gloves, to);
    }

    private static void dressIs(KidGloves x, String of, int howMany, int gloves, int... to) {
        Check.due("dress(0) of " + of, x.dress(0), howMany);
        Check.due("dress(1) of " + of, x.dress(1), gloves);
        for (int glove = 0; glove < 6; glove++) {
            Check.due("dress(" + (10 + glove) + ") of " + of, x.dress(10 + glove), glove < to.length ? to[glove] : NONE);
        }
    }

    private static void dressTwoAtMost() {
        Check.sentence("to give to whom, two at most to each");
        dressIs("g5,g5,g5;0", "1", 0, 0);
        dressIs("g5,g5,g5;5", "1", 1, 2, NONE, 0, 0);
        dressIs("g9,g6;0", "1", 1, 2, 0, 0);
        dressIs("g9,g5;0", "1", 1, 2, 0, 0);
        dressIs("g8,g6;0", "1", 0, 0);
        dressIs("g5,g5,g5,g5,g5,g5;555", "111", 3, 6, 0, 0, 1, 1, 2, 2);
        dressIs("g5,g5,g5,g5,g5;555", "111", 2, 4, NONE, 0, 0, 1, 1);
    }

    private static void dressWithMost() {
        Check.sentence("all of them, whoever has them now, as they are now");
        KidGloves x = Check.shop("k2,g3;95");
        x.wish(0, 9, 1);
        dressIs(x, "a KID of AGE 0", 1, 0);
        x.wear(0, 1, 1);
        x.hour();
        dressIs(x, "a KID of AGE 1, which another has", 2, 2, 0, 0);
        Check.due("who has it", x.glove(0, 4), 1);
        Check.sentence("so that with most it is as WISHED then");
        dressIs("g0,g0;9", "0", 0, 0);
        dressIs("g0,g0;8", "0", 1, 0);
        dressIs("g0,g0;9", "2", 1, 0);
        dressIs("g0,g0;999", "000", 0, 0);
        dressIs("g0,g0;999", "020", 1, 0);
        dressIs("g0,g0;999", "222", 3, 0);
        dressIs("g9,g0;666", "111", 1, 1, 0);
    }

    private static void dressWithFewest() {
        Check.sentence("of these with fewest GLOVES");
        dressIs("g9,g4,g5;6", "1", 1, 1, 0, NONE, NONE);
        dressIs("g4,g9,g5;6", "1", 1, 1, NONE, 0, NONE);
        dressIs("g9,g8,g7,g4,g5;669", "112", 3, 3, 0, NONE, NONE, 1, 1);
        dressIs("g9,g9,g4,g5;66", "11", 2, 2, 0, 1, NONE, NONE);
    }

    private static void dressFirstByNumbers() {
        Check.sentence("of like ones the first by numbers (GLOVE 0 first; NONE ahead of all)");
        dressIs("g9,g9;66", "11", 2, 2, 0, 1);
        dressIs("g9,g9;666", "111", 2, 2, 0, 1);
        dressIs("g9,g9;6", "1", 1, 1, NONE, 0);
        dressIs("g9,g9,g9,g9,g9,g9;6", "1", 1, 1, NONE, NONE, NONE, NONE, NONE, 0);
        dressIs("g9,g9,g9,g9,g9,g9;666", "121", 3, 2, NONE, NONE, NONE, NONE, 0, 2);
        dressIs("g9,g9,g9,g9,g9,g9;666", "221", 3, 1, NONE, NONE, NONE, NONE, NONE, 2);
    }

    private static void boxesAre(String text, int howFew, int... in) {
        KidGloves x = Check.shop(text);
        Check.due("boxes(0) of " + text, x.boxes(0), howFew);
        for (int glove = 0; glove < 6; glove++) {
            Check.due("boxes(" + (10 + glove) + ") of " + text, x.boxes(10 + glove), glove < in.length ? in[glove] : NONE);
        }
    }

    private static void boxesWithoutAQuarrel() {
        Check.sentence("in how few all GLOVES can be kept, so that in none two QUARREL (as they are now)");
        boxesAre("g0,g3;0", 1, 0, 0);
        boxesAre("g0,g4;0", 2, 0, 1);
        boxesAre("g9,g6,g9,g6,g9,g6;0", 1, 0, 0, 0, 0, 0, 0);
        boxesAre("g9,g5,g9,g5,g9,g5;0", 2, 0, 1, 0, 1, 0, 1);
        boxesAre("g0,g4,g8;0", 3, 0, 1, 2);
        boxesAre("g0,g5,g9,g1,g6,g8;0", 3, 0, 1, 2, 0, 1, 1);
        boxesAre("g2,g5,g8;0", 2, 0, 0, 1);
        KidGloves x = worn("k0,g3;0", 6);
        Check.due("boxes(0), TEMPER 6", x.boxes(0), 1);
        x.hour();
        Check.due("boxes(0), TEMPER 7", x.boxes(0), 2);
    }

    private static void boxesFirstByNumbers() {
        Check.sentence("of each GLOVE in which (numbered from 0 as they are first met);"
            + " of like ones the first by numbers (GLOVE 0 first)");
        boxesAre("g8,g0,g4;0", 3, 0, 1, 2);
        boxesAre("g5,g2,g8;0", 2, 0, 0, 1);
        boxesAre("g5,g8,g2;0", 2, 0, 0, 1);
        boxesAre("g0,g9,g3,g6;0", 2, 0, 1, 0, 1);
        boxesAre("g3,g6,g0,g9;0", 2, 0, 1, 0, 1);
        boxesAre("g0,g9,g5,g4,g5;0", 3, 0, 1, 2, 2, 2);
    }

    private static void changesAre(KidGloves x, String of, int howFew, int bits) {
        Check.due("wearer(0, 7) of " + of, x.wearer(0, 7), howFew);
        Check.due("wearer(0, 8) of " + of, x.wearer(0, 8), bits);
    }

    private static void changesHowFew() {
        Check.sentence("by how few GLOVES, taken off him or put on him .. his MOOD is so that he SITS STILL: how few;"
            + " which he has on then, as bits; of like ones the least; none.");
        changesAre(Check.shop("g9,g9;0"), "MOOD 0", 0, 0);
        changesAre(Check.shop("g9,g9;8"), "MOOD 8", 0, 0);
        changesAre(Check.shop("g0,g0;9"), "MOOD 9, bare", NONE, NONE);
        KidGloves x = Check.shop("g1,g8;0");
        x.wear(1, 0, 0);
        changesAre(x, "MOOD 8, with GLOVE 1", 0, 0b10);
        x.wish(0, 1, 2);
        changesAre(x, "MOOD 9, with GLOVE 1", 1, 0);
        x.wear(0, 0, 1);
        x.wish(0, 7, 2);
        changesAre(x, "NERVE 7, with 1 and 8", 1, 0b01);
        x.wish(0, 8, 2);
        changesAre(x, "NERVE 8, with 1 and 8", 2, 0);
        x.wish(0, 9, 2);
        changesAre(x, "NERVE 9, with 1 and 8", NONE, NONE);
        KidGloves y = Check.shop("g1,g2;5");
        y.wear(0, 0, 0);
        y.wear(1, 0, 1);
        changesAre(y, "MOOD 8, with both", 0, 0b11);
        y.wish(0, 6, 2);
        changesAre(y, "MOOD 9, with both", 1, 0b01);
    }

    private static void changesOfWhich() {
        Check.sentence("(of those that nobody has on; two on him at most)");
        KidGloves x = Check.shop("g0,g0,g9,g0,g9,g0;80");
        x.wear(2, 0, 0);
        x.wear(0, 1, 0);
        x.wear(1, 1, 1);
        changesAre(x, "NERVE 8, with GLOVE 2", 1, 0);
        x.wear(5, 0, 1);
        changesAre(x, "NERVE 8, with GLOVES 2 and 5", 1, 0b100000);
        x.wear(4, 0, 1);
        x.wish(0, 9, 2);
        changesAre(x, "NERVE 9, with GLOVES 2 and 5", NONE, NONE);
    }

    private static void changesOfLikeOnes() {
        Check.sentence("of like ones the least");
        KidGloves x = Check.shop("g0,g5,g5,g5;4");
        x.wear(3, 0, 0);
        changesAre(x, "MOOD 9, with GLOVE 3", 1, 0);
        x.wish(0, 3, 2);
        x.wear(1, 0, 1);
        changesAre(x, "NERVE 3, with GLOVES 1 and 3", 1, 0b0010);
        x.off(1);
        x.wear(2, 0, 1);
        changesAre(x, "NERVE 3, with GLOVES 2 and 3", 1, 0b0100);
    }

    private static void marks() {
        Check.sentence("MARKS (0 to 9) it can have .. so that all that is SEEN of it is so: as bits.");
        marksAre("g5", 0, 0, 1);
        marksAre("g5", 9, 9, 1 << 9);
        marksAre("k5", 0, 9, 1 << 9);
        marksAre("k5", 9, 9, 1023);
        marksAre("k5", 8, 9, 1022);
        marksAre("k5", 9, 8, 0);
        marksAre("k5", 8, 8, 1);
        marksAre("l5", 5, 9, 1023);
        marksAre("l5", 4, 9, 1022);
        marksAre("l5", 4, 8, 1);
        marksAre("l5", 5, 8, 0);
        marksAre("d5", 0, 0, 1023);
        marksAre("d5", 0, 1, 0);
        marksAre("d5", 9, 0, 1);
        marksAre("d5", 9, 9, 1 << 9);
        marksAre("o5", 0, 9, 1 << 9);
        marksAre("o5", 1, 9, 0);
        marksAre("o5", 9, 0, 1023);
        marksAre("o5", 8, 0, 511);
        marksAre("o5", 8, 1, 1 << 9);
        marksAre("o5", 9, 1, 0);
    }

    private static void marksAre(String glove, int more, int temper, int bits) {
        KidGloves x = Check.shop("g0," + glove + ";0");
        Check.due("MARKS of " + glove + " at first", x.glove(1, 7), 1023);
        x.see(1, more, temper);
        Check.due("MARKS of " + glove + ", SEEN at " + more + " as " + temper, x.glove(1, 7), bits);
        Check.due("MARKS of the other", x.glove(0, 7), 1023);
        if (bits == 0) {
            Check.due("FEEL of " + glove + " without MARKS", x.glove(1, 8), NONE);
        }
    }

    private static void feel() {
        Check.sentence("so that fewest of these are left at worst, by its TEMPER:"
            + " of like ones the least; none, if there are none.");
        KidGloves x = Check.shop("g5,k5,d5,o5,l5;0");
        Check.row("FEEL at first", glove -> x.glove(glove, 8), 0, 0, 1, 0, 0);
        x.see(2, 1, 0);
        Check.due("FEEL of a DOE of the MARK 0", x.glove(2, 8), 0);
        x.see(2, 1, 1);
        Check.due("FEEL of a DOE of no MARK", x.glove(2, 8), NONE);
        x.see(1, 8, 9);
        Check.due("FEEL of a KID of nine MARKS", x.glove(1, 8), 0);
        Check.due("FEEL of a DOE of AGE 1", worn("d5,g0;0", 1).glove(0, 8), 0);
        Check.due("FEEL of a DOE of AGE 18", worn("d5,g0;0", 18).glove(0, 8), 1);
        Check.due("FEEL of a KID of AGE 9, where all are alike", worn("k5,g0;0", 9).glove(0, 8), 0);
    }
}
