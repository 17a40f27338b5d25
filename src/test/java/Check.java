/** What the tests share: a tally of wrong answers, and a SHOP made from its text. */
final class Check {
    private static int wrong = 0;
    private static int asked = 0;
    private static String sentence = "";

    private Check() {
    }

    /** The document's own words that the answers behind this are due by: they are told with a wrong one. */
    static void sentence(String words) {
        sentence = "\"" + words + "\" - ";
    }

    static void due(String call, long got, long want) {
        asked++;
        if (got != want) {
            wrong++;
            System.out.println(sentence + call + " answered " + got + ", due is " + want);
        }
    }

    static void that(String what, boolean holds) {
        due(what, holds ? 1 : 0, 1);
    }

    static void type(KidGloves x, String text) {
        for (int i = 0; i < text.length(); i++) {
            x.letter(text.charAt(i));
        }
    }

    static KidGloves shop(String text) {
        KidGloves x = new KidGloves();
        read(x, text);
        return x;
    }

    static void read(KidGloves x, String text) {
        type(x, text);
        due("shop() of " + text, x.shop(), (text.indexOf(';') + 1) / 3);
    }

    static void hours(KidGloves x, int times) {
        for (int i = 0; i < times; i++) {
            x.hour();
        }
    }

    /** Asks a call of one argument for each of some numbers: all are to be answered alike. */
    interface Call {
        int answer(int argument);
    }

    static void each(String call, Call asked, int want, int... arguments) {
        for (int argument : arguments) {
            due(call + " with " + argument, asked.answer(argument), want);
        }
    }

    /** Numbers below the least that is taken, and above the most, both near and far. */
    static int[] beside(int least, int most) {
        return new int[] {least - 1, least - 2, Integer.MIN_VALUE, most + 1, most + 2, Integer.MAX_VALUE};
    }

    /** Asks a call for 0, 1, 2.. : the answers are to be these. */
    static void row(String call, Call asked, int... wants) {
        for (int i = 0; i < wants.length; i++) {
            due(call + " with " + i, asked.answer(i), wants[i]);
        }
    }

    static void end(String test) {
        System.out.println(test + ": " + asked + " answers, " + wrong + " wrong");
        if (wrong != 0 || asked == 0) {
            System.exit(1);
        }
    }
}
