/** The edges that promises 6 to 8 name, sentence by sentence. */
public final class GlovesEdgesTest {
    private static final int NONE = KidGloves.NONE, UNKNOWN = KidGloves.UNKNOWN, OUTSIDE = KidGloves.OUTSIDE;

    public static void main(String[] args) {
        gloveRefusals();
        gloveOnHands();
        gloveQuarrels();
        gloveMarksAndFeel();
        asRefusals();
        as();
        wearerRefusals();
        wearer();
        Check.end("GlovesEdgesTest");
    }

    private static void gloveRefusals() {
        Check.sentence("Of a GLOVE: .. UNKNOWN; OUTSIDE.");
        Scene none = new Scene(Scene::empty);
        none.refusedEach("glove(0, ..)", (x, what) -> x.glove(0, what), UNKNOWN, 0, 8, 9, -1);
        none.refusedEach("glove(.., 0)", (x, glove) -> x.glove(glove, 0), UNKNOWN, Check.beside(0, -1));
        none.end();
        Scene busy = new Scene(Scene::busy);
        busy.refusedEach("glove(.., 0)", (x, glove) -> x.glove(glove, 0), UNKNOWN, Check.beside(0, 2));
        busy.refusedEach("glove(0, ..)", (x, what) -> x.glove(0, what), OUTSIDE, Check.beside(0, 8));
        busy.refusedEach("glove(2, ..)", (x, what) -> x.glove(2, what), OUTSIDE, Check.beside(0, 8));
        busy.refusedEach("glove(3, ..), of both the first", (x, what) -> x.glove(3, what), UNKNOWN, Check.beside(0, 8));
        busy.refusedEach("glove(-1, ..), of both the first", (x, what) -> x.glove(-1, what), UNKNOWN, Check.beside(0, 8));
        busy.end();
        Scene full = new Scene(Scene::full);
        full.refusedEach("glove(.., 8)", (x, glove) -> x.glove(glove, 8), UNKNOWN, Check.beside(0, 5));
        full.refusedEach("glove(5, ..)", (x, what) -> x.glove(5, what), OUTSIDE, Check.beside(0, 8));
        full.end();
        KidGloves x = Scene.busy();
        Check.row("glove(0, 0 to 8)", what -> x.glove(0, what), 1, 5, 3, 8, 1, 1, 0b100, 1 << 3, 0);
        Check.row("glove(2, 0 to 8)", what -> x.glove(2, what), 2, 8, 0, 0, NONE, NONE, 0b011, 1023, 1);
    }

    private static void gloveOnHands() {
        Check.sentence("4 who has it on (NONE), 5 on which hand (NONE)");
        KidGloves x = Check.shop("g0,g0,g0,g0,g0,g0;000");
        for (int glove = 0; glove < 6; glove++) {
            int of = glove;
            Check.row("glove() bare", what -> what < 4 ? 0 : x.glove(of, what), 0, 0, 0, 0, NONE, NONE);
        }
        x.wear(0, 0, 0);
        x.wear(5, 2, 1);
        Check.row("glove(0, ..)", what -> what < 4 ? 0 : x.glove(0, what), 0, 0, 0, 0, 0, 0);
        Check.row("glove(5, ..)", what -> what < 4 ? 0 : x.glove(5, what), 0, 0, 0, 0, 2, 1);
        x.off(0);
        Check.row("glove(0, ..) off", what -> what < 4 ? 0 : x.glove(0, what), 0, 0, 0, 0, NONE, NONE);
    }

    private static void gloveQuarrels() {
        Check.sentence("6 with which others it QUARRELS, as bits");
        KidGloves x = Check.shop("g9,g0,g1,g2,g3,g4;0");
        Check.row("glove(.., 6)", glove -> x.glove(glove, 6), 0b111110, 0b100001, 1, 1, 1, 0b000011);
        KidGloves y = Check.shop("g5,g2,g8,g5,g3,g6;0");
        Check.row("glove(.., 6)", glove -> y.glove(glove, 6), 0, 0b100100, 0b010010, 0, 0b000100, 0b000010);
    }

    private static void gloveMarksAndFeel() {
        Check.sentence("7 MARKS, as bits, 8 FEEL (NONE)");
        KidGloves x = Check.shop("g5,d5;0");
        Check.row("MARKS of nothing SEEN", glove -> x.glove(glove, 7), 1023, 1023);
        Check.row("FEEL of nothing SEEN", glove -> x.glove(glove, 8), 0, 1);
        x.see(0, 0, 0);
        x.see(1, 1, 9);
        Check.row("MARKS of one", glove -> x.glove(glove, 7), 1, 1 << 9);
        Check.row("FEEL of one", glove -> x.glove(glove, 8), 0, 0);
        x.see(0, 9, 9);
        x.see(1, 9, 0);
        Check.row("MARKS of none", glove -> x.glove(glove, 7), 0, 0);
        Check.row("FEEL of none", glove -> x.glove(glove, 8), NONE, NONE);
    }

    private static void asRefusals() {
        Check.sentence("A GLOVE taken as a KIND: .. UNKNOWN; OUTSIDE.");
        Scene none = new Scene(Scene::empty);
        none.refusedEach("as(0, ..)", (x, kind) -> x.as(0, kind), UNKNOWN, 0, 4, 5, -1);
        none.end();
        Scene busy = new Scene(Scene::busy);
        busy.refusedEach("as(.., 0)", (x, glove) -> x.as(glove, 0), UNKNOWN, Check.beside(0, 2));
        busy.refusedEach("as(.., 4)", (x, glove) -> x.as(glove, 4), UNKNOWN, Check.beside(0, 2));
        busy.refusedEach("as(0, ..)", (x, kind) -> x.as(0, kind), OUTSIDE, Check.beside(0, 4));
        busy.refusedEach("as(2, ..)", (x, kind) -> x.as(2, kind), OUTSIDE, Check.beside(0, 4));
        busy.refusedEach("as(3, ..), of both the first", (x, kind) -> x.as(3, kind), UNKNOWN, Check.beside(0, 4));
        busy.refusedEach("as(-1, ..), of both the first", (x, kind) -> x.as(-1, kind), UNKNOWN, Check.beside(0, 4));
        busy.end();
    }

    private static void as() {
        Check.sentence("its own number (not that of the KIND); NONE: it is none such (the cast fails).");
        KidGloves x = Check.shop("l1,k1,d1,o1,g1,l1;0");
        Check.row("as(0, 0 to 4), a LAMB", kind -> x.as(0, kind), 0, 0, NONE, NONE, 0);
        Check.row("as(1, 0 to 4), a KID", kind -> x.as(1, kind), 1, 1, NONE, NONE, NONE);
        Check.row("as(2, 0 to 4), a DOE", kind -> x.as(2, kind), 2, NONE, 2, NONE, NONE);
        Check.row("as(3, 0 to 4), an OLD one", kind -> x.as(3, kind), 3, NONE, NONE, 3, NONE);
        Check.row("as(4, 0 to 4), a GLOVE", kind -> x.as(4, kind), 4, NONE, NONE, NONE, NONE);
        Check.row("as(5, 0 to 4), a LAMB", kind -> x.as(5, kind), 5, 5, NONE, NONE, 5);
    }

    private static void wearerRefusals() {
        Check.sentence("Of a WEARER: .. UNKNOWN; OUTSIDE.");
        Scene none = new Scene(Scene::empty);
        none.refusedEach("wearer(0, ..)", (x, what) -> x.wearer(0, what), UNKNOWN, 0, 8, 9, -1);
        none.end();
        Scene busy = new Scene(Scene::busy);
        busy.refusedEach("wearer(.., 0)", (x, wearer) -> x.wearer(wearer, 0), UNKNOWN, Check.beside(0, 1));
        busy.refusedEach("wearer(0, ..)", (x, what) -> x.wearer(0, what), OUTSIDE, Check.beside(0, 8));
        busy.refusedEach("wearer(1, ..)", (x, what) -> x.wearer(1, what), OUTSIDE, Check.beside(0, 8));
        busy.refusedEach("wearer(2, ..), of both the first", (x, what) -> x.wearer(2, what), UNKNOWN, Check.beside(0, 8));
        busy.refusedEach("wearer(-1, ..), of both the first", (x, what) -> x.wearer(-1, what), UNKNOWN, Check.beside(0, 8));
        busy.end();
        Scene full = new Scene(Scene::full);
        full.refusedEach("wearer(.., 8)", (x, wearer) -> x.wearer(wearer, 8), UNKNOWN, Check.beside(0, 2));
        full.refusedEach("wearer(2, ..)", (x, what) -> x.wearer(2, what), OUTSIDE, Check.beside(0, 8));
        full.end();
        KidGloves one = Check.shop("g0,g0;0");
        Check.row("NERVE of the only one", wearer -> one.wearer(wearer, 0), 0, UNKNOWN, UNKNOWN);
        KidGloves x = Scene.busy();
        Check.row("wearer(0, 0 to 8)", what -> x.wearer(0, what), 8, 13, 1, NONE, 2, 1, 0, 1, 0);
        Check.row("wearer(1, 0 to 8)", what -> x.wearer(1, what), 3, 11, NONE, 0, 2, 0, 0, 1, 0);
    }

    private static void wearer() {
        Check.sentence("2, 3 the GLOVE on his left, right hand (NONE) .. 7 how few CHANGES (NONE),"
            + " 8 which he has on then, as bits (NONE)");
        KidGloves x = Check.shop("g9,g0,g0,g0,g0,g9;098");
        Check.row("wearer(0, ..) bare", what -> x.wearer(0, what), 0, 0, NONE, NONE, 0, 2, 1, 0, 0);
        Check.row("wearer(1, ..) bare", what -> x.wearer(1, what), 9, 9, NONE, NONE, 2, 2, 1, NONE, NONE);
        x.wear(0, 0, 0);
        x.wear(5, 0, 1);
        Check.row("wearer(0, ..), GLOVES 0, 5", what -> x.wearer(0, what), 0, 18, 0, 5, 1, 2, 1, 2, 0);
        x.off(0);
        x.wear(4, 0, 0);
        Check.row("wearer(0, ..), GLOVES 4, 5", what -> x.wearer(0, what), 0, 12, 4, 5, 2, 2, 1, 1, 0b010000);
        x.wear(0, 2, 1);
        Check.row("wearer(2, ..), GLOVE 0", what -> x.wearer(2, what), 8, 17, NONE, 0, 1, 2, 1, 1, 0);
    }
}
