import java.lang.reflect.Method;
import java.util.Arrays;

/** Promises 1 to 28: long runs of calls, at and about the edges, each compared with PlainSea. */
public final class PlainSeaTest {
    /** An object is used for at most 512 calls: every run has so many. */
    private static final int MOST_CALLS = 512;
    /** One step of a run takes at most 80; behind the last one there are single calls alone. */
    private static final int LAST_STEP = MOST_CALLS - 80;
    /** Each call with the ranges of its arguments; "p" is a person, "b" yes or no. */
    private static final String[] CALLS = {"letter 32-126", "blank", "fault", "sea", "person p 0-14",
        "as p 0-4", "choose p 0-9", "paint p 0-3", "limit 1-9", "show p p", "back p p", "day",
        "meet p p", "part p", "lasting 0-13", "mutual", "comes 1-8 1-9 0-1", "best 1-8 0-1",
        "see p p b", "forget", "seasons 1-60 0-2147483647 0-2", "image", "restore", "count 0-14",
        "digest"};
    /** Those that make a sea live come oftener. */
    private static final String[] LIVING = {"show p p", "show p p", "show p p", "back p p", "meet p p",
        "part p", "part p", "see p p b", "see p p b", "choose p 0-5", "paint p 0-3", "limit 1-9",
        "person p 0-14", "person p 13-14"};
    private static final String LETTERS = "oehsg0123459,; ~x/:";

    private final RandomSeas random;
    private final ThumbSea sea = new ThumbSea();
    private final PlainSea plain = new PlainSea();
    private int calls;

    private PlainSeaTest(int seed) {
        random = new RandomSeas(seed);
    }

    public static void main(String[] args) throws Exception {
        for (int run = 0; run < 400; run++) {
            PlainSeaTest test = new PlainSeaTest(run);
            if (run % 4 == 0) {
                test.scribble();
            } else {
                test.live();
            }
            test.untilTheLastCall();
        }
        Check.end();
    }

    /** Pages that are seas, or nearly so, or the beginning of one, or more than fits. */
    private void scribble() throws Exception {
        while (calls < LAST_STEP) {
            StringBuilder text = new StringBuilder(random.text());
            if (random.below(3) > 0) {
                char letter = LETTERS.charAt(random.below(LETTERS.length()));
                text.setCharAt(random.below(text.length()), letter);
            }
            if (random.below(3) == 0) {
                text.setLength(random.below(text.length() + 1));
            }
            if (random.below(4) == 0) {
                text.append(random.below(2) == 0 ? "," : ";").append("o000");
            }
            write(text.toString());
            for (String name : new String[] {"fault", "sea", "fault", "digest", "blank"}) {
                call(name);
            }
        }
    }

    private void live() throws Exception {
        // what is asked of an object that has no sea
        for (int time = random.below(20); time > 0; time--) {
            call(CALLS[random.below(CALLS.length)]);
        }
        newSea();
        while (calls < LAST_STEP) {
            int step = random.below(200);
            if (step == 0) {
                newSea();
            } else if (step < 30) {
                court();
            } else {
                String[] from = random.below(2) == 0 ? LIVING : CALLS;
                call(from[random.below(from.length)]);
            }
        }
    }

    private void untilTheLastCall() throws Exception {
        while (calls < MOST_CALLS - 3) {
            call(random.below(2) == 0 ? LIVING[random.below(LIVING.length)]
                : CALLS[random.below(CALLS.length)]);
        }
        call("digest");
        call("restore");
        call("digest");
        Check.same("calls of a run", calls, MOST_CALLS);
    }

    private void newSea() throws Exception {
        call("blank");
        write(random.text());
        call("sea");
    }

    /** Two are shown to each other, and meet. */
    private void court() throws Exception {
        int one = random.below(plain.count(0));
        int other = plain.count(0) + random.below(plain.count(1));
        Class<?>[] two = {int.class, int.class};
        compare("show", two, one, other);
        compare("show", two, other, one);
        compare("meet", two, one, other);
    }

    private void write(String text) throws Exception {
        for (int place = 0; place < text.length(); place++) {
            compare("letter", new Class<?>[] {int.class}, (int) text.charAt(place));
        }
    }

    private void call(String told) throws Exception {
        String[] words = told.split(" ");
        Class<?>[] types = new Class<?>[words.length - 1];
        Object[] arguments = new Object[types.length];
        for (int i = 0; i < types.length; i++) {
            boolean yesOrNo = words[i + 1].equals("b");
            types[i] = yesOrNo ? boolean.class : int.class;
            arguments[i] = yesOrNo ? (Object) (random.below(2) == 0) : (Object) number(words[i + 1]);
        }
        compare(words[0], types, arguments);
    }

    /** Within the range mostly, else right beside it, or far away. */
    private int number(String range) {
        int people = plain.count(0) + plain.count(1);
        boolean person = range.equals("p");
        int least = person ? 0 : Integer.parseInt(range.split("-")[0]);
        int most = person ? people - 1 : Integer.parseInt(range.split("-")[1]);
        switch (random.below(40)) {
            case 0: return least - 1;
            case 1: return most + 1;
            case 2: return least;
            case 3: return most;
            case 4: return random.below(2) == 0 ? Integer.MIN_VALUE : Integer.MAX_VALUE;
            default: return most < least ? 0 : least + random.below(Math.max(most - least + 1, 1));
        }
    }

    private void compare(String name, Class<?>[] types, Object... arguments) throws Exception {
        calls++;
        long got = answer(ThumbSea.class.getMethod(name, types), sea, arguments);
        long want = answer(PlainSea.class.getMethod(name, types), plain, arguments);
        Check.same("call " + calls + ", " + name + Arrays.toString(arguments), got, want);
    }

    private static long answer(Method method, Object of, Object[] arguments) throws Exception {
        return ((Number) method.invoke(of, arguments)).longValue();
    }
}
