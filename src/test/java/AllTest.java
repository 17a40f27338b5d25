/** Promises 21 to 24: what is told of all. */
public final class AllTest {
    public static void main(String[] args) {
        image();
        restore();
        imageKeepsAll();
        count();
        digest();
        Check.end("AllTest");
    }

    private static void image() {
        KidGloves x = new KidGloves();
        Check.due("image() without a SHOP", x.image(), KidGloves.STATE);
        Check.due("restore() behind it", x.restore(), KidGloves.STATE);
        Check.read(x, "k5,o7;4");
        Check.due("image()", x.image(), 0);
        Check.hours(x, 3);
        Check.due("image() at HOUR 3", x.image(), 3);
        Check.hours(x, 2);
        Check.due("restore() of the latest", x.restore(), 3);
        Check.due("count(3)", x.count(3), 3);
    }

    private static void restore() {
        KidGloves x = Check.shop("k5,o7;4");
        Check.due("restore() of none", x.restore(), KidGloves.STATE);
        x.hour();
        x.image();
        x.hour();
        Check.due("restore()", x.restore(), 1);
        x.hour();
        x.hour();
        Check.due("restore() again", x.restore(), 1);
        Check.type(x, "k5");
        Check.due("shop() of a wrong page", x.shop(), KidGloves.STATE);
        Check.due("restore() behind a wrong page", x.restore(), 1);
        Check.due("THE PAGE is as it was", x.count(10), 2);
        x.blank();
        Check.read(x, "k5,o7;4");
        Check.due("restore() behind the same text", x.restore(), KidGloves.STATE);
        Check.due("count(3)", x.count(3), 0);
        Check.due("image()", x.image(), 0);
        Check.due("restore()", x.restore(), 0);
    }

    private static void imageKeepsAll() {
        KidGloves x = Check.shop("k5,o7,d9;40");
        x.wear(0, 1, 1);
        x.wear(1, 0, 0);
        x.wish(0, 8, 1);
        x.hour();
        x.see(0, 2, 8);
        x.image();
        long before = x.digest();

        x.off(0);
        x.wear(2, 0, 1);
        x.wish(0, 2, 0);
        x.wish(1, 9, 1);
        x.book(0, 1);
        x.book(2, 2);
        x.hour();
        x.see(2, 2, 8);
        x.see(0, 1, 8);
        Check.that("digest() is another", x.digest() != before);
        Check.due("restore()", x.restore(), 1);
        Check.due("digest() is as it was", x.digest(), before);
        Check.row("glove(0, ..)", what -> x.glove(0, what), 1, 5, 1, 6, 1, 1, 4, 1 << 5, 0);
        Check.row("glove(1, ..)", what -> x.glove(1, what), 3, 7, 1, 6, 0, 0, 4, 1023, 0);
        Check.row("glove(2, ..)", what -> x.glove(2, what), 2, 9, 0, 0, -1, -1, 3, 1023, 1);
        Check.row("wearer(0, ..)", what -> x.wearer(0, what), 8, 14, 1, -1, 2, 1, 0, 1, 0);
        Check.row("wearer(1, ..)", what -> x.wearer(1, what), 0, 6, -1, 0, 0, 2, 1, 0, 1);

        x.forget();
        x.see(2, 1, 0);
        x.hour();
        Check.due("restore() again", x.restore(), 1);
        Check.due("digest() is as it was", x.digest(), before);

        Check.type(x, "g5");
        x.dress(0);
        x.restore();
        Check.due("count(10) is not of the IMAGE", x.count(10), 2);
        Check.due("count(11) is not of the IMAGE", x.count(11), 1);
        Check.due("count(12) is not of the IMAGE", x.count(12), 1);
    }

    private static void count() {
        KidGloves x = Check.shop("g0,g4,g8,k5,d7,o3;689");
        Check.each("count()", x::count, KidGloves.OUTSIDE, 13, 14, -1, Integer.MIN_VALUE, Integer.MAX_VALUE);
        Check.row("count() at first", x::count, 6, 3, 0, 0, 0, 2, 3, 8, 20, 0, 0, 1, 0);
        x.wear(2, 0, 0);
        x.wear(1, 0, 1);
        x.wear(3, 2, 0);
        x.wish(1, 8, 0);
        x.wish(2, 9, 0);
        Check.row("count() when dressed", x::count, 6, 3, 3, 0, 1, 1, 2, 8, 20, 0, 0, 1, 0);
        x.hour();
        Check.row("count() behind an HOUR", x::count, 6, 3, 3, 1, 2, 1, 2, 8, 21, 0, 0, 1, 0);
        x.see(0, 0, 0);
        x.letter('k');
        x.letter('k');
        x.dress(0);
        Check.row("count() behind more", x::count, 6, 3, 3, 1, 2, 1, 2, 8, 21, 1, 2, 1, 1);
        x.blank();
        Check.read(x, "g0,g0;0");
        Check.row("count() of the next", x::count, 2, 1, 0, 0, 0, 1, 1, 0, 0, 0, 0, 2, 1);
    }

    private static void digest() {
        digestIsAsTold(new KidGloves());
        long empty = 1237;
        for (int what = 0; what <= 12; what++) {
            empty = 31 * empty;
        }
        Check.due("digest() of a new one", new KidGloves().digest(), empty);

        KidGloves x = new KidGloves();
        Check.type(x, "k~ ");
        digestIsAsTold(x);
        x.blank();
        Check.read(x, "k5,o7,d9;40");
        digestIsAsTold(x);
        x.wear(0, 1, 1);
        x.wear(1, 0, 0);
        x.wear(2, 0, 1);
        x.hour();
        x.wish(0, 8, 1);
        x.see(2, 0, 4);
        x.see(0, 0, 4);
        x.see(0, 0, 5);
        x.dress(11);
        Check.type(x, "d~");
        digestIsAsTold(x);
    }

    private static void digestIsAsTold(KidGloves x) {
        long unasked = x.digest();
        long h = 1237;
        for (int glove = 0; glove < x.count(0); glove++) {
            for (int what = 0; what <= 8; what++) {
                h = h * 31 + x.glove(glove, what);
            }
        }
        for (int wearer = 0; wearer < x.count(1); wearer++) {
            for (int what = 0; what <= 8; what++) {
                h = h * 31 + x.wearer(wearer, what);
            }
            h = h * 31 + x.mood(wearer, 5);
            h = h * 31 + x.odds(wearer, 4, 6, 0);
            h = h * 31 + x.odds(wearer, 4, 6, 1);
        }
        if (x.count(0) > 0) {
            h = h * 31 + x.boxes(0);
            for (int what = 10; what <= 15; what++) {
                h = h * 31 + x.boxes(what);
            }
        }
        String page = x.count(10) == 0 ? "" : x.count(10) == 3 ? "k~ " : "d~";
        for (int i = 0; i < page.length(); i++) {
            h = h * 31 + page.charAt(i);
        }
        for (int what = 0; what <= 12; what++) {
            h = h * 31 + x.count(what);
        }
        Check.due("digest()", unasked, h);
        Check.due("digest() again", x.digest(), h);
    }
}
