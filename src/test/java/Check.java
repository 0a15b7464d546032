/** Compares answers with those that are due, and ends a test with exit code 1 if one was not. */
final class Check {
    private static int wrong = 0;
    private static int asked = 0;

    private Check() {
    }

    static void same(String call, long got, long want) {
        asked++;
        if (got != want) {
            wrong++;
            System.out.println(call + " answered " + got + ", due is " + want);
        }
    }

    interface Call {
        long on(ThumbSea x);
    }

    /** A call that is refused: with which answer, and that all that the digest tells is as it was. */
    static void refused(String call, ThumbSea x, int want, Call asked) {
        long before = x.digest();
        same(call, asked.on(x), want);
        same(call + ", refused, leaves the digest", x.digest(), before);
    }

    /** Asks for count(what) of each number, from 0. */
    static void counts(ThumbSea x, String why, int... wants) {
        for (int what = 0; what < wants.length; what++) {
            same(why + ": count(" + what + ")", x.count(what), wants[what]);
        }
    }

    static void end() {
        System.out.println(asked + " answers, " + wrong + " not as due");
        if (wrong != 0 || asked == 0) {
            System.exit(1);
        }
    }

    /** A new object on whose page the text stands. */
    static ThumbSea page(String text) {
        ThumbSea x = new ThumbSea();
        write(x, text);
        return x;
    }

    static void write(ThumbSea x, String text) {
        for (int i = 0; i < text.length(); i++) {
            same("letter of " + text, x.letter(text.charAt(i)), i + 1);
        }
    }

    /** A new object that has read the text as its sea. */
    static ThumbSea sea(String text) {
        ThumbSea x = page(text);
        same("sea " + text, x.sea(), (text.length() + 1) / 5);
        return x;
    }

    /** Asks for answers in a row: person(one, what) for each one, in their order. */
    static void people(ThumbSea x, String why, int what, int... wants) {
        for (int one = 0; one < wants.length; one++) {
            same(why + ": person(" + one + ", " + what + ")", x.person(one, what), wants[one]);
        }
    }
}
