/** An object in the middle of its life that is refused things, and what it is to do behind them. */
final class Scene {
    /** Makes the object, each time by the same calls. */
    interface Maker {
        KidGloves make();
    }

    interface Asked {
        int answer(KidGloves x);
    }

    interface AskedOf {
        int answer(KidGloves x, int argument);
    }

    // Each refusal takes three calls, and the scene some hundred: an object is good for 512.
    private static final int MOST_REFUSALS = 125;

    private final Maker maker;
    private final KidGloves x;
    private int refusals = 0;

    Scene(Maker maker) {
        this.maker = maker;
        this.x = maker.make();
    }

    /** No SHOP yet; three letters on THE PAGE, which are none. */
    static KidGloves empty() {
        KidGloves x = new KidGloves();
        Check.type(x, "k5,");
        return x;
    }

    /**
     * 3 GLOVES, 2 WEARERS: the KID on WEARER 1's right hand, the OLD one on WEARER 0's left, the DOE lies by; behind
     * 3 HOURS, with an IMAGE of HOUR 1, 2 SEEN, four letters on THE PAGE.
     */
    static KidGloves busy() {
        KidGloves x = Check.shop("k5,o7,d9;40");
        x.wear(0, 1, 1);
        x.wish(0, 8, 1);
        x.hour();
        x.see(0, 2, 8);
        x.image();
        x.wear(1, 0, 0);
        x.wish(1, 3, 0);
        x.book(2, 8);
        Check.hours(x, 2);
        x.see(0, 0, 6);
        x.dress(0);
        Check.type(x, "k5,g");
        return x;
    }

    /** 6 GLOVES on all hands of 3 WEARERS, an IMAGE, 8 SEEN (of the KID), 26 letters on THE PAGE, dress() 20 times. */
    static KidGloves full() {
        KidGloves x = Check.shop("k5,o7,d9,g0,l2,g4;407");
        for (int glove = 0; glove < 6; glove++) {
            x.wear(glove, glove / 2, glove % 2);
        }
        x.hour();
        x.image();
        x.hour();
        for (int more = 0; more < 8; more++) {
            x.see(0, more, more < 2 ? more + 7 : 9);
        }
        for (int times = 0; times < 20; times++) {
            x.dress(0);
        }
        Check.type(x, "k5,o7,d9,g0,l2,g4;407gkdol");
        return x;
    }

    void refused(String call, Asked asked, int want) {
        refusals++;
        Check.that("the scene has calls left", refusals <= MOST_REFUSALS);
        long before = x.digest();
        Check.due(call, asked.answer(x), want);
        Check.due("digest() behind " + call, x.digest(), before);
    }

    void refusedEach(String call, AskedOf asked, int want, int... arguments) {
        for (int argument : arguments) {
            refused(call + " with " + argument, x -> asked.answer(x, argument), want);
        }
    }

    /** From here on it does as one that was made alike, and was refused nothing. */
    void end() {
        KidGloves twin = maker.make();
        Check.due("digest() in the end", x.digest(), twin.digest());
        Check.due("fault() in the end", x.fault(), twin.fault());
        Check.due("teas() in the end", x.teas(9, 9, 2), twin.teas(9, 9, 2));
        Check.due("restore() in the end", x.restore(), twin.restore());
        Check.due("digest() of the IMAGE", x.digest(), twin.digest());
        Check.due("hour() from the IMAGE", x.hour(), twin.hour());
        Check.due("digest() behind that HOUR", x.digest(), twin.digest());
        Check.due("dress() in the end", x.dress(0), twin.dress(0));
        Check.due("forget() in the end", x.forget(), twin.forget());
        Check.due("blank() in the end", x.blank(), twin.blank());
        Check.read(x, "l3,d3;3");
        Check.read(twin, "l3,d3;3");
        Check.due("digest() of the next SHOP", x.digest(), twin.digest());
    }
}
