/** The edges that promises 1 to 5 name, sentence by sentence. */
public final class ShopEdgesTest {
    private static final int STATE = KidGloves.STATE, OUTSIDE = KidGloves.OUTSIDE, FULL = KidGloves.FULL;
    private static final String LONGEST = "k5,o7,d9,g0,l2,g4;407";

    public static void main(String[] args) {
        newObject();
        letterCodes();
        lettersToFull();
        blank();
        fault();
        shopIsNone();
        shopOfEachLength();
        shopIsAnother();
        smallerShopIsAnother();
        Check.end("ShopEdgesTest");
    }

    private static void newObject() {
        Check.sentence("No SHOP.");
        KidGloves x = new KidGloves();
        Check.row("count() of a new one", x::count, 0, 0, 0, 0, 0, 0, 0, 0, 0, 0, 0, 0, 0);
        Check.due("the least GLOVE", x.glove(0, 0), KidGloves.UNKNOWN);
        Check.due("the least WEARER", x.wearer(0, 0), KidGloves.UNKNOWN);
        Check.due("fault()", x.fault(), 0);
        Check.due("restore()", x.restore(), STATE);
    }

    private static void letterCodes() {
        Check.sentence("OUTSIDE: code (32 to 126)");
        for (Scene.Maker maker : new Scene.Maker[] {KidGloves::new, Scene::empty, Scene::busy}) {
            Scene scene = new Scene(maker);
            scene.refusedEach("letter()", KidGloves::letter, OUTSIDE, Check.beside(32, 126));
            scene.refusedEach("letter()", KidGloves::letter, OUTSIDE, 0, -1, 10, 32 + 256, 126 - 256);
            scene.end();
        }
        KidGloves x = new KidGloves();
        for (int code = 32; code <= 57; code++) {
            Check.due("letter(" + code + ")", x.letter(code), code - 31);
        }
        KidGloves y = new KidGloves();
        for (int code = 101; code <= 126; code++) {
            Check.due("letter(" + code + ")", y.letter(code), code - 100);
        }
    }

    private static void lettersToFull() {
        Check.sentence("A letter comes behind THE PAGE, told by its code: how many THE PAGE has. .. FULL: above 26.");
        KidGloves x = new KidGloves();
        for (int had = 0; had < 26; had++) {
            Check.due("letter() behind " + had, x.letter('k'), had + 1);
            Check.due("count(10)", x.count(10), had + 1);
        }
        Check.due("letter() behind 26", x.letter('k'), FULL);
        Check.due("count(10)", x.count(10), 26);

        Scene scene = new Scene(Scene::full);
        scene.refusedEach("letter()", KidGloves::letter, FULL, 32, 126, 'k', 'x', '0', 44);
        Check.sentence("OUTSIDE: code (32 to 126); FULL: above 26. - of both the first");
        scene.refusedEach("letter()", KidGloves::letter, OUTSIDE, Check.beside(32, 126));
        scene.refusedEach("letter()", KidGloves::letter, OUTSIDE, 0, -1);
        scene.end();
    }

    private static void blank() {
        Check.sentence("THE PAGE is empty: how many letters it had.");
        KidGloves x = new KidGloves();
        Check.due("blank() of an empty page", x.blank(), 0);
        Check.due("count(10)", x.count(10), 0);
        x.letter('k');
        Check.due("blank() of one letter", x.blank(), 1);
        for (int times = 0; times < 2; times++) {
            Check.type(x, LONGEST + "gkdol");
            Check.due("letter() of the full page", x.letter('k'), FULL);
            Check.due("blank() of the full page", x.blank(), 26);
            Check.due("count(10)", x.count(10), 0);
            Check.due("fault()", x.fault(), 0);
            Check.due("blank() again", x.blank(), 0);
        }
        Check.type(x, "g5,g5");
        Check.due("fault(), what was there being gone", x.fault(), 5);
        Check.due("shop(), what was there being gone", x.shop(), STATE);
    }

    private static void faultIs(String text, int place) {
        KidGloves x = new KidGloves();
        Check.type(x, text);
        Check.due("fault() of \"" + text + "\"", x.fault(), place);
        Check.due("count(10) behind it", x.count(10), text.length());
    }

    private static void fault() {
        Check.sentence("The place (from 0) of the first letter of THE PAGE that no SHOP has there, behind those ahead of it;");
        faultIs("x", 0);
        faultIs("xg5,g5;1", 0);
        faultIs("gg5,g5;1", 1);
        faultIs("x5,,", 0);
        faultIs("g5,g5;1x", 7);
        faultIs("g5,g5;12x4", 8);
        faultIs("g5,g5;123x", 9);
        faultIs("g5;1,g5;1", 2);
        faultIs("g5,g5;1;1", 7);
        faultIs(LONGEST + "8", 21);
        faultIs(LONGEST + "gkdol", 21);
        faultIs("zzzzzzzzzzzzzzzzzzzzzzzzzz", 0);
        faultIs("k5,o7,d9,g0,l2,g4,g4;4078x", 17);
        Check.sentence("how many letters it has, if there is none.");
        faultIs("", 0);
        for (int length = 1; length <= LONGEST.length(); length++) {
            faultIs(LONGEST.substring(0, length), length);
        }
        for (int length = 1; length <= 7; length++) {
            faultIs("g5,g5;1".substring(0, length), length);
        }
    }

    private static void shopIsNone() {
        Check.sentence("STATE: it is none.");
        for (Scene.Maker maker : new Scene.Maker[] {KidGloves::new, Scene::empty, Scene::busy, Scene::full}) {
            Scene scene = new Scene(maker);
            scene.refused("shop()", KidGloves::shop, STATE);
            scene.refused("shop() again", KidGloves::shop, STATE);
            scene.end();
        }
        KidGloves x = Scene.busy();
        x.blank();
        long before = x.digest();
        Check.due("shop() of the empty page", x.shop(), STATE);
        Check.due("digest()", x.digest(), before);
        Check.due("restore() behind it", x.restore(), 1);
    }

    private static void shopOfEachLength() {
        Check.sentence("how many GLOVES; THE PAGE is empty then. STATE: it is none.");
        for (String text : new String[] {LONGEST, "g5,g5;123", "l0,o9,d5;0"}) {
            int nerves = text.indexOf(';') + 1;
            for (int length = 0; length <= text.length(); length++) {
                boolean is = length > nerves;
                KidGloves x = new KidGloves();
                Check.type(x, text.substring(0, length));
                Check.due("shop() of " + text.substring(0, length), x.shop(), is ? nerves / 3 : STATE);
                Check.due("count(0)", x.count(0), is ? nerves / 3 : 0);
                Check.due("count(1)", x.count(1), is ? length - nerves : 0);
                Check.due("count(10)", x.count(10), is ? 0 : length);
                Check.due("count(11)", x.count(11), is ? 1 : 0);
                Check.due("shop() again", x.shop(), STATE);
                Check.due("letter() behind it", x.letter('g'), is ? 1 : length + 1);
            }
        }
    }

    private static void shopIsAnother() {
        Check.sentence("(another one is gone, with all that was)");
        KidGloves x = Scene.full();
        x.blank();
        Check.read(x, "k5,d9;4");
        Check.row("count()", x::count, 2, 1, 0, 0, 0, 1, 1, 1, 5, 0, 0, 2, 20);
        Check.row("GLOVES", glove -> x.glove(glove, 2), 0, 0, KidGloves.UNKNOWN, KidGloves.UNKNOWN);
        Check.row("WEARERS", wearer -> x.wearer(wearer, 2), -1, KidGloves.UNKNOWN, KidGloves.UNKNOWN);
        Check.row("WISH", wearer -> x.wearer(wearer, 5), 2);
        Check.row("MARKS", glove -> x.glove(glove, 7), 1023, 1023);
        Check.row("boxes(10 ..)", glove -> x.boxes(10 + glove), 0, 1, -1, -1, -1, -1);
        Check.due("restore()", x.restore(), STATE);
        Check.due("hour()", x.hour(), 1);
        KidGloves y = Check.shop("k5,d9;4");
        y.hour();
        for (int glove = 0; glove < 2; glove++) {
            for (int what = 0; what <= 8; what++) {
                Check.due("glove(" + glove + ", " + what + ")", x.glove(glove, what), y.glove(glove, what));
            }
        }
    }

    // What the larger one had at numbers that the smaller one has not is to be in none of its answers.
    private static void smallerShopIsAnother() {
        KidGloves x = Check.shop("g0,g0,g9,g9,g9,g9;888");
        Check.due("dress(0) of three WEARERS", x.dress(0), 3);
        Check.due("boxes(0) of six GLOVES", x.boxes(0), 2);
        Check.due("count(7) of six GLOVES", x.count(7), 8);
        for (int wearers = 2; wearers >= 1; wearers--) {
            Check.read(x, "g0,g0;" + "888".substring(0, wearers));
            Check.due("dress(0) of the next", x.dress(0), wearers);
            Check.row("dress(10 ..) of the next", glove -> x.dress(10 + glove), -1, -1, -1, -1);
            Check.due("boxes(0) of the next", x.boxes(0), 1);
            Check.row("boxes(10 ..) of the next", glove -> x.boxes(10 + glove), 0, 0, -1, -1, -1, -1);
            Check.row("count(0 to 8) of the next", x::count, 2, wearers, 0, 0, 0, wearers, wearers, 0, 0);
            Check.row("QUARRELS of the next", glove -> x.glove(glove, 6), 0, 0, KidGloves.UNKNOWN);
            Check.row("CHANGES of the next", wearer -> x.wearer(wearer, 8), 0);
        }
        x.wish(0, 6, 1);
        Check.row("dress(0, 1), that he BUTTS", x::dress, 0, 0);
        Check.row("dress(10 ..)", glove -> x.dress(10 + glove), -1, -1, -1);
    }
}
