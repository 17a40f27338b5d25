/** Long runs of calls by a seed, wild arguments among them, each answered as the Oracle answers it. */
public final class ModelTest {
    private static final int RUNS = 400;
    private static final int CALLS = 512;
    private static final int[] WILD = {-1, -2, 7, 9, 10, 16, 41, 61, 100, Integer.MIN_VALUE, Integer.MAX_VALUE};

    private static long state;

    public static void main(String[] args) {
        for (int run = 0; run < RUNS; run++) {
            state = run * 7919L + 1;
            new ModelTest().run(run);
        }
        Check.end("ModelTest");
    }

    private final KidGloves x = new KidGloves();
    private final Oracle o = new Oracle();
    private int calls = 0;
    private String run;

    private static int below(int bound) {
        state = state * 6364136223846793005L + 1442695040888963407L;
        return (int) ((state >>> 33) % bound);
    }

    /** Most often 0 to `most`; at times another number. */
    private static int upTo(int most) {
        return below(25) == 0 ? WILD[below(WILD.length)] : below(most + 1);
    }

    private void run(int number) {
        run = "run " + number + ", call ";
        if (below(10) != 0) {
            typeShop();
        }
        while (calls < CALLS) {
            step(below(100));
        }
    }

    private void due(String call, long got, long want) {
        calls++;
        Check.due(run + calls + ": " + call, got, want);
    }

    private void type(String text) {
        for (int i = 0; i < text.length(); i++) {
            due("letter", x.letter(text.charAt(i)), o.letter(text.charAt(i)));
        }
    }

    private void typeShop() {
        StringBuilder text = new StringBuilder();
        for (int gloves = 2 + below(5); gloves > 0; gloves--) {
            text.append("gkdol".charAt(below(5))).append(below(10)).append(gloves > 1 ? "," : ";");
        }
        for (int wearers = 1 + below(3); wearers > 0; wearers--) {
            text.append(below(10));
        }
        if (below(5) == 0) {
            text.setCharAt(below(text.length()), "gkdol,;059 x".charAt(below(12)));
        }
        due("blank", x.blank(), o.blank());
        type(text.toString());
        due("fault", x.fault(), o.fault());
        due("shop", x.shop(), o.shop());
    }

    private void step(int kind) {
        int glove = upTo(5);
        int wearer = upTo(2);
        int some = upTo(9);
        int other = upTo(9);
        if (kind < 16) {
            int hand = upTo(1);
            due("wear", x.wear(glove, wearer, hand), o.wear(glove, wearer, hand));
        } else if (kind < 22) {
            due("off", x.off(glove), o.off(glove));
        } else if (kind < 34) {
            due("hour", x.hour(), o.hour());
        } else if (kind < 37) {
            due("book", x.book(glove, some), o.book(glove, some));
        } else if (kind < 42) {
            int wish = upTo(2);
            due("wish", x.wish(wearer, some, wish), o.wish(wearer, some, wish));
        } else if (kind < 50) {
            due("glove", x.glove(glove, some), o.glove(glove, some));
        } else if (kind < 58) {
            due("wearer", x.wearer(wearer, some), o.wearer(wearer, some));
        } else if (kind < 61) {
            int of = upTo(4);
            due("as", x.as(glove, of), o.as(glove, of));
        } else if (kind < 65) {
            int hours = upTo(40);
            due("mood", x.mood(wearer, hours), o.mood(wearer, hours));
        } else {
            rareStep(kind, glove, wearer, some, other);
        }
    }

    private void rareStep(int kind, int glove, int wearer, int some, int other) {
        if (kind < 68) {
            int what = below(3) == 0 ? upTo(1) : 10 + upTo(5);
            due("dress", x.dress(what), o.dress(what));
        } else if (kind < 72) {
            int what = below(3) == 0 ? upTo(0) : 10 + upTo(5);
            due("boxes", x.boxes(what), o.boxes(what));
        } else if (kind < 77) {
            int hours = 1 + below(8);
            int tenths = upTo(10);
            int what = upTo(1);
            due("odds", x.odds(wearer, hours, tenths, what), o.odds(wearer, hours, tenths, what));
        } else if (kind < 81) {
            seeMostOftenSo(glove, some, other);
        } else if (kind < 82) {
            due("forget", x.forget(), o.forget());
        } else if (kind < 86) {
            int times = upTo(60);
            int seed = below(4) == 0 ? WILD[below(WILD.length)] : below(Integer.MAX_VALUE);
            int what = upTo(2);
            due("teas", x.teas(times, seed, what), o.teas(times, seed, what));
        } else if (kind < 88) {
            due("image", x.image(), o.image());
        } else if (kind < 90) {
            due("restore", x.restore(), o.restore());
        } else if (kind < 93) {
            int what = upTo(12);
            due("count", x.count(what), o.count(what));
        } else if (kind < 97) {
            due("digest", x.digest(), o.digest());
        } else if (kind < 99) {
            wildLetters();
        } else if (below(3) == 0) {
            typeShop();
        }
    }

    /** At times what the GLOVE would be like indeed, so that MARKS are left. */
    private void seeMostOftenSo(int glove, int more, int temper) {
        int seen = o.glove(glove, 3);
        int so = seen >= 0 && below(3) != 0 ? seen : temper;
        int then = so == seen ? 0 : more;
        due("see", x.see(glove, then, so), o.see(glove, then, so));
    }

    private void wildLetters() {
        int code = below(3) == 0 ? upTo(200) : "gkdol,;0123456789".charAt(below(17));
        due("letter", x.letter(code), o.letter(code));
        due("fault", x.fault(), o.fault());
        if (below(4) == 0) {
            due("blank", x.blank(), o.blank());
        }
    }
}
