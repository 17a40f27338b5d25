/** Promises 1 to 5: a new object, THE PAGE, and how a SHOP is read. */
public final class PageTest {
    public static void main(String[] args) {
        newObject();
        letter();
        blank();
        fault();
        shop();
        shopIsFresh();
        Check.end("PageTest");
    }

    private static void newObject() {
        KidGloves x = new KidGloves();
        Check.row("count() of a new one", x::count, 0, 0, 0, 0, 0, 0, 0, 0, 0, 0, 0, 0, 0, KidGloves.OUTSIDE);
        Check.each("glove(0, ..) of a new one", what -> x.glove(0, what), KidGloves.UNKNOWN, 0, 8, 9, -1);
        Check.each("wearer(0, ..) of a new one", what -> x.wearer(0, what), KidGloves.UNKNOWN, 0, 8, 9, -1);
        Check.due("as(0, 0) of a new one", x.as(0, 0), KidGloves.UNKNOWN);
        Check.due("wear(0, 0, 0) of a new one", x.wear(0, 0, 0), KidGloves.UNKNOWN);
        Check.due("off(0) of a new one", x.off(0), KidGloves.UNKNOWN);
        Check.due("book(0, 0) of a new one", x.book(0, 0), KidGloves.UNKNOWN);
        Check.due("wish(0, 0, 0) of a new one", x.wish(0, 0, 0), KidGloves.UNKNOWN);
        Check.due("mood(0, 0) of a new one", x.mood(0, 0), KidGloves.UNKNOWN);
        Check.due("odds(0, 1, 0, 0) of a new one", x.odds(0, 1, 0, 0), KidGloves.UNKNOWN);
        Check.due("see(0, 0, 0) of a new one", x.see(0, 0, 0), KidGloves.UNKNOWN);
        Check.due("hour() of a new one", x.hour(), KidGloves.STATE);
        Check.due("dress(0) of a new one", x.dress(0), KidGloves.STATE);
        Check.due("dress(2) of a new one", x.dress(2), KidGloves.OUTSIDE);
        Check.due("boxes(0) of a new one", x.boxes(0), KidGloves.STATE);
        Check.due("boxes(1) of a new one", x.boxes(1), KidGloves.OUTSIDE);
        Check.due("teas(1, 0, 0) of a new one", x.teas(1, 0, 0), KidGloves.STATE);
        Check.due("teas(0, 0, 0) of a new one", x.teas(0, 0, 0), KidGloves.OUTSIDE);
        Check.due("image() of a new one", x.image(), KidGloves.STATE);
        Check.due("restore() of a new one", x.restore(), KidGloves.STATE);
        Check.due("shop() of a new one", x.shop(), KidGloves.STATE);
        Check.due("forget() of a new one", x.forget(), 0);
        Check.due("blank() of a new one", x.blank(), 0);
        Check.due("fault() of a new one", x.fault(), 0);
        Check.row("count() behind refusals", x::count, 0, 0, 0, 0, 0, 0, 0, 0, 0, 0, 0, 0, 0);

        KidGloves other = Check.shop("g5,g5;0");
        Check.due("count(0) of one", other.count(0), 2);
        Check.due("count(0) of another", x.count(0), 0);
    }

    private static void letter() {
        KidGloves x = new KidGloves();
        Check.each("letter()", x::letter, KidGloves.OUTSIDE, 31, 127, 0, -1, Integer.MIN_VALUE, Integer.MAX_VALUE);
        Check.due("count(10)", x.count(10), 0);
        Check.due("letter(32)", x.letter(32), 1);
        Check.due("letter(126)", x.letter(126), 2);
        for (int had = 2; had < 26; had++) {
            Check.due("letter() behind " + had, x.letter('k'), had + 1);
        }
        Check.due("letter() above 26", x.letter('k'), KidGloves.FULL);
        Check.due("letter() above 26 again", x.letter('k'), KidGloves.FULL);
        Check.due("letter(127) above 26", x.letter(127), KidGloves.OUTSIDE);
        Check.due("count(10)", x.count(10), 26);
    }

    private static void blank() {
        KidGloves x = new KidGloves();
        Check.type(x, "zz");
        Check.due("blank()", x.blank(), 2);
        Check.due("count(10)", x.count(10), 0);
        Check.due("blank() again", x.blank(), 0);
        Check.due("letter() on the blank page", x.letter('g'), 1);
        Check.due("fault() on it", x.fault(), 1);
    }

    private static void fault() {
        faultIs("", 0);
        faultIs("g", 1);
        faultIs("g5", 2);
        faultIs("g5,", 3);
        faultIs("g5,k", 4);
        faultIs("g5,k0;", 6);
        faultIs("g5,k0;9", 7);
        faultIs("g5,k0;909", 9);
        faultIs("g5,k0,d1,o2,l3,g4;000", 21);
        faultIs("x", 0);
        faultIs("5", 0);
        faultIs("G5", 0);
        faultIs(";", 0);
        faultIs(",", 0);
        faultIs(" g5", 0);
        faultIs("gg", 1);
        faultIs("g,", 1);
        faultIs("g;5", 1);
        faultIs("g5;", 2);
        faultIs("g55", 2);
        faultIs("g5k", 2);
        faultIs("g5.", 2);
        faultIs("g5,,", 3);
        faultIs("g5,;", 3);
        faultIs("g5,k;", 4);
        faultIs("g5,k0;;", 6);
        faultIs("g5,k0;,", 6);
        faultIs("g5,k0;g", 6);
        faultIs("g5,k0;1,", 7);
        faultIs("g5,k0;1;", 7);
        faultIs("g5,k0;123;", 9);
        faultIs("g5,k0;1234", 9);
        faultIs("g5,k0,d1,o2,l3,g4,", 17);
        faultIs("g5,k0,d1,o2,l3,g4,g5;000", 17);
        faultIs("g5,k0,d1,o2,l3,g4;0000", 21);
        faultIs("g5,k0:;1", 5);
        faultIs("g/,k0;1", 1);
        faultIs("g:,k0;1", 1);
        faultIs("g5,k0;/", 6);
        faultIs("g5,k0;:", 6);
    }

    private static void faultIs(String text, int place) {
        KidGloves x = new KidGloves();
        Check.type(x, text);
        Check.due("fault() of \"" + text + "\"", x.fault(), place);
        Check.due("count(10) behind it", x.count(10), text.length());
    }

    private static void shop() {
        for (String text : new String[] {"", "g5", "g5;1", "g5,k0", "g5,k0;", "g5,k0;1234", "g5,k0;1,", "a5,k0;1",
            "g5,k0,d1,o2,l3,g4,g5;0", "g5,k0,;1"}) {
            KidGloves x = new KidGloves();
            Check.type(x, text);
            Check.due("shop() of \"" + text + "\"", x.shop(), KidGloves.STATE);
            Check.due("count(10) behind it", x.count(10), text.length());
            Check.due("count(11) behind it", x.count(11), 0);
            Check.due("count(0) behind it", x.count(0), 0);
        }
        KidGloves x = Check.shop("g5,k0,d1,o2,l3,g4;789");
        Check.row("its KINDS", glove -> x.glove(glove, 0), 0, 1, 2, 3, 4, 0, KidGloves.UNKNOWN);
        Check.row("its MARKS", glove -> x.glove(glove, 1), 5, 0, 1, 2, 3, 4, KidGloves.UNKNOWN);
        Check.row("its NERVES", wearer -> x.wearer(wearer, 0), 7, 8, 9, KidGloves.UNKNOWN);
        Check.row("count()", x::count, 6, 3);
        Check.due("count(10), THE PAGE being empty", x.count(10), 0);
        Check.due("count(11)", x.count(11), 1);
        Check.due("shop() of the empty page", x.shop(), KidGloves.STATE);
        Check.due("count(0), the SHOP still being there", x.count(0), 6);
        Check.type(x, "g5;");
        Check.due("shop() of a wrong page", x.shop(), KidGloves.STATE);
        Check.due("count(0), the SHOP still being there", x.count(0), 6);
        Check.due("count(10)", x.count(10), 3);
        x.blank();
        Check.read(x, "l9,l8;6");
        Check.row("count() of the next", x::count, 2, 1);
        Check.row("its KINDS", glove -> x.glove(glove, 0), 4, 4, KidGloves.UNKNOWN);
        Check.row("its NERVES", wearer -> x.wearer(wearer, 0), 6, KidGloves.UNKNOWN);
        Check.due("count(11)", x.count(11), 2);
    }

    private static void shopIsFresh() {
        KidGloves x = Check.shop("k1,d2;34");
        x.wear(0, 0, 0);
        x.wear(1, 1, 1);
        Check.hours(x, 3);
        x.wish(0, 9, 0);
        x.book(1, 8);
        x.see(0, 0, 5);
        x.dress(0);
        x.image();
        Check.read(x, "k1,d2;34");
        Check.row("glove(0, ..)", what -> x.glove(0, what), 1, 1, 0, 1, -1, -1, 0, 1023, 0);
        Check.row("glove(1, ..)", what -> x.glove(1, what), 2, 2, 0, 0, -1, -1, 0, 1023, 1);
        Check.row("wearer(0, ..)", what -> x.wearer(0, what), 3, 3, -1, -1, 0, 2, 1, 0, 0);
        Check.row("count()", x::count, 2, 2, 0, 0, 0, 2, 2, 0, 1, 0, 0, 2, 1);
        Check.due("restore() behind shop()", x.restore(), KidGloves.STATE);
    }
}
