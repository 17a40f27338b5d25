/** Promises 9 to 13: what is done. */
public final class DoneTest {
    private static final int[] FAR = {-1, 100, Integer.MIN_VALUE, Integer.MAX_VALUE};

    public static void main(String[] args) {
        wear();
        off();
        hour();
        hoursEnd();
        book();
        wish();
        Check.end("DoneTest");
    }

    private static void wear() {
        KidGloves x = Check.shop("k5,o1,g3;40");
        Check.each("wear(.., 0, 0)", glove -> x.wear(glove, 0, 0), KidGloves.UNKNOWN, FAR);
        Check.each("wear(0, .., 0)", wearer -> x.wear(0, wearer, 0), KidGloves.UNKNOWN, FAR);
        Check.each("wear(0, 0, ..)", hand -> x.wear(0, 0, hand), KidGloves.OUTSIDE, FAR);
        Check.due("wear(3, 0, 0)", x.wear(3, 0, 0), KidGloves.UNKNOWN);
        Check.due("wear(0, 2, 0)", x.wear(0, 2, 0), KidGloves.UNKNOWN);
        Check.due("wear(0, 0, 2)", x.wear(0, 0, 2), KidGloves.OUTSIDE);
        Check.due("wear(3, 0, 2)", x.wear(3, 0, 2), KidGloves.UNKNOWN);
        Check.due("wear(0, 2, 2)", x.wear(0, 2, 2), KidGloves.UNKNOWN);
        Check.due("count(2) behind refusals", x.count(2), 0);

        Check.due("wear(0, 0, 1)", x.wear(0, 0, 1), 9);
        Check.due("wear(0, 0, 0), it being on", x.wear(0, 0, 0), KidGloves.STATE);
        Check.due("wear(0, 1, 0), it being on", x.wear(0, 1, 0), KidGloves.STATE);
        Check.due("wear(0, 0, 2), it being on", x.wear(0, 0, 2), KidGloves.OUTSIDE);
        Check.due("wear(1, 0, 1), the hand having one", x.wear(1, 0, 1), KidGloves.STATE);
        Check.due("wear(1, 0, 0), with a quarrel", x.wear(1, 0, 0), 13);
        Check.due("wear(2, 1, 1)", x.wear(2, 1, 1), 3);
        Check.row("wearer(0, ..)", what -> x.wearer(0, what), 4, 13, 1, 0);
        Check.row("wearer(1, ..)", what -> x.wearer(1, what), 0, 3, -1, 2);
        Check.due("count(2)", x.count(2), 3);
        x.hour();
        x.off(0);
        Check.due("wear(0, 1, 0), older", x.wear(0, 1, 0), 9);
    }

    private static void off() {
        KidGloves x = Check.shop("k5,o1,g3;40");
        Check.each("off()", x::off, KidGloves.UNKNOWN, FAR);
        Check.due("off(3)", x.off(3), KidGloves.UNKNOWN);
        Check.due("off(0), nobody having it", x.off(0), KidGloves.STATE);
        x.wear(0, 1, 1);
        x.wear(1, 0, 1);
        x.hour();
        Check.due("off(0)", x.off(0), 1);
        Check.due("off(0) again", x.off(0), KidGloves.STATE);
        Check.row("glove(0, ..)", what -> x.glove(0, what), 1, 5, 1, 6, -1, -1);
        x.hour();
        Check.due("its AGE, lying by", x.glove(0, 2), 1);
        Check.due("off(1)", x.off(1), 0);
    }

    private static void hour() {
        KidGloves x = new KidGloves();
        Check.due("hour() without a SHOP", x.hour(), KidGloves.STATE);
        Check.read(x, "k5,o7,d3;4");
        Check.due("hour()", x.hour(), 1);
        Check.row("AGES with all lying by", glove -> x.glove(glove, 2), 0, 0, 0);
        x.wear(0, 0, 0);
        x.wear(2, 0, 1);
        Check.due("hour()", x.hour(), 2);
        Check.due("hour()", x.hour(), 3);
        Check.row("AGES", glove -> x.glove(glove, 2), 2, 0, 2);
        Check.due("count(3)", x.count(3), 3);
        Check.read(x, "k5,o7;4");
        Check.due("hour() of the next SHOP", x.hour(), 1);
    }

    // 999 HOURS need more than the 512 calls that are promised: this only keeps the limit that the document names.
    private static void hoursEnd() {
        KidGloves x = Check.shop("k5,o7;4");
        x.wear(1, 0, 0);
        for (int hour = 1; hour <= 999; hour++) {
            Check.due("hour()", x.hour(), hour);
        }
        Check.due("hour() above 999", x.hour(), KidGloves.FULL);
        Check.due("count(3)", x.count(3), 999);
        Check.due("AGE", x.glove(1, 2), 20);
    }

    private static void book() {
        KidGloves x = Check.shop("k5,o7;4");
        Check.each("book(.., 0)", glove -> x.book(glove, 0), KidGloves.UNKNOWN, FAR);
        Check.each("book(0, ..)", mark -> x.book(0, mark), KidGloves.OUTSIDE, FAR);
        Check.due("book(0, 10)", x.book(0, 10), KidGloves.OUTSIDE);
        Check.due("book(2, 10)", x.book(2, 10), KidGloves.UNKNOWN);
        Check.due("MARK behind refusals", x.glove(0, 1), 5);
        x.wear(0, 0, 0);
        x.hour();
        Check.due("book(0, 0)", x.book(0, 0), 5);
        Check.row("glove(0, ..)", what -> x.glove(0, what), 1, 0, 1, 1);
        Check.due("book(0, 9)", x.book(0, 9), 0);
        Check.due("book(0, 9) again", x.book(0, 9), 9);
        Check.due("TEMPER", x.glove(0, 3), 9);
        Check.due("MOOD", x.wearer(0, 1), 13);
        Check.due("MARK of the other", x.glove(1, 1), 7);
    }

    private static void wish() {
        KidGloves x = Check.shop("k5,o7;47");
        Check.each("wish(.., 0, 0)", wearer -> x.wish(wearer, 0, 0), KidGloves.UNKNOWN, FAR);
        Check.each("wish(0, .., 0)", nerve -> x.wish(0, nerve, 0), KidGloves.OUTSIDE, FAR);
        Check.each("wish(0, 0, ..)", wish -> x.wish(0, 0, wish), KidGloves.OUTSIDE, FAR);
        Check.due("wish(2, 10, 3)", x.wish(2, 10, 3), KidGloves.UNKNOWN);
        Check.due("wish(0, 10, 0)", x.wish(0, 10, 0), KidGloves.OUTSIDE);
        Check.due("wish(0, 0, 3)", x.wish(0, 0, 3), KidGloves.OUTSIDE);
        Check.row("NERVES behind refusals", wearer -> x.wearer(wearer, 0), 4, 7);
        Check.row("WISHES behind refusals", wearer -> x.wearer(wearer, 5), 2, 2);
        Check.due("wish(0, 9, 0)", x.wish(0, 9, 0), 2);
        Check.due("wish(0, 0, 1)", x.wish(0, 0, 1), 0);
        Check.due("wish(0, 3, 2)", x.wish(0, 3, 2), 1);
        Check.due("wish(1, 8, 1)", x.wish(1, 8, 1), 2);
        Check.row("NERVES", wearer -> x.wearer(wearer, 0), 3, 8);
        Check.row("MOODS", wearer -> x.wearer(wearer, 1), 3, 8);
        Check.row("WISHES", wearer -> x.wearer(wearer, 5), 2, 1);
    }
}
