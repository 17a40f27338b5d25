import java.math.BigInteger;
import java.util.ArrayList;
import java.util.List;

/** The edges that promises 21 to 24 name, sentence by sentence. */
public final class AllEdgesTest {
    private static final int STATE = KidGloves.STATE, OUTSIDE = KidGloves.OUTSIDE;

    public static void main(String[] args) {
        image();
        imageIsTheLatest();
        imageKeeps();
        imageOfEightSeen();
        restoreOfNone();
        restoreOfAnotherShop();
        restoreAgain();
        countRefusals();
        countEmptyAndFull();
        countsOn();
        digestWraps();
        Check.end("AllEdgesTest");
    }

    private static void image() {
        Check.sentence("how many HOURS there were. STATE: no SHOP.");
        for (Scene.Maker maker : new Scene.Maker[] {KidGloves::new, Scene::empty}) {
            Scene none = new Scene(maker);
            none.refused("image()", KidGloves::image, STATE);
            none.refused("restore() behind it", KidGloves::restore, STATE);
            none.end();
        }
        KidGloves x = Check.shop("g0,g0;0");
        Check.due("image() at HOUR 0", x.image(), 0);
        x.hour();
        Check.due("image() at HOUR 1", x.image(), 1);
        Check.due("image() at HOUR 1 again", x.image(), 1);
    }

    private static void imageIsTheLatest() {
        Check.sentence("(one; the latest)");
        KidGloves x = Check.shop("g0,g0;0");
        x.book(0, 1);
        x.image();
        x.book(0, 2);
        x.hour();
        x.image();
        x.book(0, 3);
        x.hour();
        Check.due("restore()", x.restore(), 1);
        Check.due("MARK", x.glove(0, 1), 2);
        Check.due("restore() again", x.restore(), 1);
        Check.due("MARK", x.glove(0, 1), 2);
    }

    private static void imageKeeps() {
        Check.sentence("An IMAGE keeps MARKS, AGES, who has which on which hand, NERVES, WISHES, HOURS, SEEN.");
        KidGloves x = Check.shop("k5,o7,d9;40");
        x.wear(0, 0, 0);
        x.wear(2, 1, 1);
        x.wish(1, 3, 1);
        x.hour();
        x.see(0, 2, 8);
        x.image();
        for (int glove = 0; glove < 3; glove++) {
            x.book(glove, 1);
            x.off(glove);
            x.wear(glove, glove / 2, 1 - glove % 2);
        }
        x.wish(0, 9, 0);
        x.wish(1, 9, 0);
        Check.hours(x, 2);
        x.forget();
        x.see(1, 4, 3);
        x.see(2, 1, 4);
        Check.due("restore()", x.restore(), 1);
        Check.row("glove(0, ..)", what -> x.glove(0, what), 1, 5, 1, 6, 0, 0, 0, 1 << 5, 0);
        Check.row("glove(1, ..)", what -> x.glove(1, what), 3, 7, 0, 7, -1, -1, 0, 1023, 0);
        Check.row("glove(2, ..)", what -> x.glove(2, what), 2, 9, 1, 9, 1, 1, 0, 1023, 0);
        Check.row("wearer(0, ..)", what -> x.wearer(0, what), 4, 10, 0, -1, 2, 2, 1, 1, 0);
        Check.row("wearer(1, ..)", what -> x.wearer(1, what), 3, 12, -1, 2, 2, 1, 0, 1, 0);
        Check.row("count(0 to 12)", x::count, 3, 2, 2, 1, 0, 0, 1, 0, 22, 1, 0, 1, 0);
    }

    private static void imageOfEightSeen() {
        KidGloves x = Check.shop("g0,g0;0");
        for (int mark = 0; mark < 8; mark++) {
            x.see(mark / 4, 0, mark / 4);
        }
        x.image();
        x.forget();
        x.see(0, 0, 9);
        Check.row("MARKS", glove -> x.glove(glove, 7), 512, 1023);
        x.restore();
        Check.row("MARKS of the IMAGE", glove -> x.glove(glove, 7), 1, 2);
        Check.due("see() of a ninth", x.see(0, 0, 0), KidGloves.FULL);
        Check.due("forget()", x.forget(), 8);
        x.image();
        x.see(0, 0, 9);
        x.restore();
        Check.due("count(9) of an IMAGE with nothing SEEN", x.count(9), 0);
        Check.row("MARKS", glove -> x.glove(glove, 7), 1023, 1023);
    }

    private static KidGloves withoutImage() {
        KidGloves x = Check.shop("k5,o7;4");
        x.wear(0, 0, 0);
        x.hour();
        x.see(0, 0, 6);
        return x;
    }

    /** The one that is busy, behind the same text read again; it has had an HOUR since. */
    private static KidGloves readAgain() {
        KidGloves x = Scene.busy();
        x.blank();
        Check.read(x, "k5,o7,d9;40");
        x.wear(2, 1, 1);
        x.hour();
        return x;
    }

    private static void restoreOfNone() {
        Check.sentence("STATE: none was kept");
        for (Scene.Maker maker : new Scene.Maker[] {KidGloves::new, Scene::empty, AllEdgesTest::withoutImage}) {
            Scene none = new Scene(maker);
            none.refused("restore()", KidGloves::restore, STATE);
            none.refused("restore() again", KidGloves::restore, STATE);
            none.end();
        }
    }

    private static void restoreOfAnotherShop() {
        Check.sentence("or a SHOP was read since (of the same text, too).");
        Scene again = new Scene(AllEdgesTest::readAgain);
        again.refused("restore()", KidGloves::restore, STATE);
        again.refused("restore() again", KidGloves::restore, STATE);
        again.end();
        for (String next : new String[] {"k5,o7,d9;40", "k5,o7,d9;4", "k5,o7;40"}) {
            KidGloves x = Scene.busy();
            Check.due("shop() of no SHOP", x.shop(), STATE);
            Check.due("restore() behind it", x.restore(), 1);
            x.blank();
            Check.read(x, next);
            Check.due("restore() behind " + next, x.restore(), STATE);
            Check.due("image() of it", x.image(), 0);
            x.hour();
            Check.due("restore() of that", x.restore(), 0);
        }
    }

    private static void restoreAgain() {
        Check.sentence("It goes on from the IMAGE: how many HOURS that has.");
        KidGloves x = Scene.full();
        Check.due("restore()", x.restore(), 1);
        long before = x.digest();
        Check.row("count(0 to 12)", x::count, 6, 3, 6, 1, 2, 0, 3, 7, 29, 0, 26, 1, 20);
        for (int times = 0; times < 2; times++) {
            for (int glove = 0; glove < 6; glove++) {
                x.off(glove);
                x.book(glove, 9);
                x.see(glove, 0, 0);
            }
            x.wish(2, 0, 0);
            x.hour();
            Check.due("restore() again", x.restore(), 1);
            Check.due("digest()", x.digest(), before);
        }
    }

    private static void countRefusals() {
        Check.sentence("How many: .. OUTSIDE.");
        for (Scene.Maker maker : new Scene.Maker[] {KidGloves::new, Scene::empty, Scene::busy, Scene::full}) {
            Scene scene = new Scene(maker);
            scene.refusedEach("count()", KidGloves::count, OUTSIDE, Check.beside(0, 12));
            scene.end();
        }
    }

    private static void countEmptyAndFull() {
        Check.sentence("0 GLOVES, 1 WEARERS, 2 GLOVES on hands .. 10 letters of THE PAGE,"
            + " 11 how often a SHOP was read, 12 how often dress() was done");
        Check.row("count(0 to 12) of a new one", new KidGloves()::count, 0, 0, 0, 0, 0, 0, 0, 0, 0, 0, 0, 0, 0);
        Check.row("count(0 to 12) of the least", Check.shop("g0,g0;9")::count, 2, 1, 0, 0, 0, 0, 1, 0, 0, 0, 0, 1, 0);
        Check.row("count(0 to 12) of the full", Scene.full()::count, 6, 3, 6, 2, 2, 1, 3, 8, 22, 8, 26, 1, 20);
        Check.row("count(0 to 8)", Check.shop("g0,g4,g8,g0,g4,g8;888")::count, 6, 3, 0, 0, 0, 3, 3, 12, 24);
        KidGloves x = Check.shop("g9,g9,g9,g9,g9,g9;999");
        for (int glove = 0; glove < 6; glove++) {
            x.wear(glove, glove / 2, glove % 2);
        }
        Check.row("count(0 to 8)", x::count, 6, 3, 6, 0, 3, 0, 3, 0, 54);
        for (int wearer = 0; wearer < 3; wearer++) {
            x.wish(wearer, 9, 0);
        }
        Check.due("count(6) of none", x.count(6), 0);
    }

    private static void countsOn() {
        Check.sentence("(11 and 12 count on, whatever is read or restored)");
        KidGloves x = Check.shop("g0,g0;0");
        x.image();
        x.dress(0);
        x.restore();
        Check.row("count() behind restore()", what -> x.count(11 + what), 1, 1);
        Check.read(x, "g0,g0;0");
        x.image();
        x.dress(0);
        x.restore();
        Check.row("count() behind both", what -> x.count(11 + what), 2, 2);
        Check.due("shop() of no SHOP", x.shop(), STATE);
        Check.due("dress() of no such what", x.dress(2), OUTSIDE);
        Check.row("count() behind refusals", what -> x.count(11 + what), 2, 2);
        Check.read(x, "g0,g0;0");
        Check.row("count() behind the third", what -> x.count(11 + what), 3, 2);
    }

    private static void digestWraps() {
        Check.sentence("31 times h, and it (as longs, wrapping)");
        KidGloves x = new KidGloves();
        digestIs(x, "", false);
        Check.type(x, " ~");
        digestIs(x, " ~", false);
        digestIs(Scene.empty(), "k5,", false);
        digestIs(Scene.busy(), "k5,g", true);
        digestIs(Scene.full(), "k5,o7,d9,g0,l2,g4;407gkdol", true);
        digestIs(Check.shop("g0,g0;0"), "", true);
        KidGloves y = Check.shop("k8,o9,d9;666");
        for (int glove = 0; glove < 3; glove++) {
            y.wear(glove, glove, 1);
        }
        digestIs(y, "", true);
    }

    /** All numbers joined without a bound, and only then cut to a long. */
    private static void digestIs(KidGloves x, String page, boolean hasShop) {
        long unasked = x.digest();
        BigInteger h = BigInteger.valueOf(1237);
        for (long number : numbers(x, page, hasShop)) {
            h = h.multiply(BigInteger.valueOf(31)).add(BigInteger.valueOf(number));
        }
        Check.that("it is beside what a long holds", h.bitLength() > 63);
        Check.due("digest() with the page \"" + page + "\"", unasked, h.longValue());
        Check.due("digest() again", x.digest(), h.longValue());
    }

    private static List<Long> numbers(KidGloves x, String page, boolean hasShop) {
        List<Long> all = new ArrayList<>();
        for (int glove = 0; glove < x.count(0); glove++) {
            for (int what = 0; what <= 8; what++) {
                all.add((long) x.glove(glove, what));
            }
        }
        for (int wearer = 0; wearer < x.count(1); wearer++) {
            for (int what = 0; what <= 8; what++) {
                all.add((long) x.wearer(wearer, what));
            }
            all.add((long) x.mood(wearer, 5));
            all.add((long) x.odds(wearer, 4, 6, 0));
            all.add((long) x.odds(wearer, 4, 6, 1));
        }
        for (int what : hasShop ? new int[] {0, 10, 11, 12, 13, 14, 15} : new int[0]) {
            all.add((long) x.boxes(what));
        }
        page.chars().forEach(code -> all.add((long) code));
        for (int what = 0; what <= 12; what++) {
            all.add((long) x.count(what));
        }
        return all;
    }
}
