import java.math.BigInteger;

/** The edges of what is SEEN, of SEASONS and IMAGES, and of promises 22 to 28, sentence by sentence. */
public final class ToldEdgesTest {
    private static final int LEAST = Integer.MIN_VALUE;
    private static final int GREATEST = Integer.MAX_VALUE;
    private static final String FULL_SEA = "o939,e000,h102,s213;g324,o435,e506,h617";

    public static void main(String[] args) {
        promise22See();
        choosiesAtTheEdge();
        askAtTheEdge();
        promise23Forget();
        promise24Seasons();
        seedsWrapAround();
        drawsOfEachSide();
        promise25Image();
        promise26Restore();
        imageKeepsEach();
        refusedCallsLeaveTheImage();
        promise27Count();
        countsAtTheEdge();
        promise28Digest();
        digestWrapsAround();
        Check.end();
    }

    private static ThumbSea seen(int much) {
        ThumbSea x = Check.sea("o505,o500;o305,s400");
        for (int n = 1; n <= much; n++) {
            Check.same("see", x.see(n % 2, 2 + n / 2 % 2, true), n);
        }
        return x;
    }

    /** "how much is. UNKNOWN: one, other; STATE: they are of one SIDE; FULL." (8 at most). */
    private static void promise22See() {
        for (int much : new int[] {0, 1, 7, 8}) {
            for (int wrong : new int[] {LEAST, -1, 4, 8, GREATEST}) {
                Check.refused("one", seen(much), ThumbSea.UNKNOWN, x -> x.see(wrong, 0, true));
                Check.refused("other", seen(much), ThumbSea.UNKNOWN, x -> x.see(3, wrong, false));
                Check.refused("both", seen(much), ThumbSea.UNKNOWN, x -> x.see(wrong, wrong, true));
            }
            for (int person = 0; person < 4; person++) {
                int one = person;
                int fellow = person ^ 1;
                Check.refused("himself", seen(much), ThumbSea.STATE, x -> x.see(one, one, true));
                Check.refused("one side", seen(much), ThumbSea.STATE, x -> x.see(one, fellow, false));
            }
        }
        Check.refused("no sea", new ThumbSea(), ThumbSea.UNKNOWN, x -> x.see(0, 1, true));
        Check.refused("no sea", new ThumbSea(), ThumbSea.UNKNOWN, x -> x.see(0, 0, true));
        for (int one = 0; one < 4; one++) {
            for (int other = one < 2 ? 2 : 0; other < (one < 2 ? 4 : 2); other++) {
                int first = one;
                int second = other;
                Check.same("the first", seen(0).see(one, other, false), 1);
                Check.same("the eighth", seen(7).see(one, other, false), 8);
                Check.refused("the ninth", seen(8), ThumbSea.FULL, x -> x.see(first, second, false));
            }
        }
        ThumbSea x = seen(8);
        Check.refused("full", x, ThumbSea.FULL, y -> y.see(0, 2, false));
        Check.same("what was refused is not so", x.person(0, 13), 15);
        Check.same("forget", x.forget(), 8);
        Check.same("again the first", x.see(0, 2, false), 1);
        Check.same("not known, so not changed", x.person(0, 3), 5);
        Check.same("seen, not shown", x.person(0, 9), 0);
    }

    /** "CHOOSIES (0 to 9) he can be, so that all that is SEEN of him is so: as bits." */
    private static void choosiesAtTheEdge() {
        for (int worth = 0; worth <= 9; worth++) {
            for (int flattery = 0; flattery <= 3; flattery++) {
                String text = "o000,e000;o" + worth + flattery + "0";
                int picture = Math.min(worth + flattery, 9);
                // as choosy as the picture is, or less: those bits and all below
                int likes = (2 << picture) - 1;
                ThumbSea x = Check.sea(text);
                Check.same("nothing is seen", x.person(0, 13), 1023);
                Check.same("see", x.see(0, 2, true), 1);
                Check.same("likes " + text, x.person(0, 13), likes);
                Check.same("not of another one", x.person(1, 13), 1023);
                Check.same("nor of the one shown", x.person(2, 13), 1023);
                Check.same("forget", x.forget(), 1);
                Check.same("see", x.see(0, 2, false), 1);
                Check.same("does not like " + text, x.person(0, 13), 1023 - likes);
                Check.same("see", x.see(0, 2, true), 2);
                Check.same("both can't be", x.person(0, 13), 0);
                Check.same("so none to ask", x.person(0, 14), ThumbSea.NONE);
                Check.same("see", x.see(1, 2, true), 3);
                Check.same("an eager one likes all", x.person(1, 13), 1023);
                Check.same("see", x.see(1, 2, false), 4);
                Check.same("that can't be", x.person(1, 13), 0);
                Check.same("so none to ask", x.person(1, 14), ThumbSea.NONE);
            }
        }
        ThumbSea second = Check.sea("o300,o500;o000");
        Check.same("see the first of all", second.see(2, 0, false), 1);
        Check.same("more than 3", second.person(2, 13), 1023 - 15);
        Check.same("see", second.see(2, 1, true), 2);
        Check.same("4 and 5", second.person(2, 13), 48);
        ThumbSea between = Check.sea("o000;o300,o400");
        Check.same("see", between.see(0, 1, false), 1);
        Check.same("see", between.see(0, 2, true), 2);
        Check.same("4 alone", between.person(0, 13), 16);
        Check.same("one is left, whoever is shown", between.person(0, 14), 1);
    }

    /** "fewest of these are left at worst: of like ones the least; none, if there are none". */
    private static void askAtTheEdge() {
        Check.same("only one there is", Check.sea("o000;o930").person(0, 14), 1);
        Check.same("only one there is", Check.sea("o000;o930").person(1, 14), 0);
        Check.same("5 and 5", Check.sea("o000;o300,o400,o500").person(0, 14), 2);
        Check.same("6 and 6 alike: the least", Check.sea("o000;o500,o300").person(0, 14), 1);
        Check.same("6 and 6 alike: the least", Check.sea("o000;o300,o500").person(0, 14), 1);
        Check.same("one better at the end", Check.sea("o000;o900,o800,o010,o410").person(0, 14), 4);
        Check.same("gone ones, too", Check.sea("o000;o900,g400").person(0, 14), 2);
        Check.same("of one gone, too", Check.sea("g000;o900,o400").person(0, 14), 2);
        Check.same("eager: all alike", Check.sea("e000;o900,o400").person(0, 14), 1);
        ThumbSea x = Check.sea("o000,o000;o900,o400");
        Check.same("right", x.show(1, 3), 1);
        Check.same("match", x.show(3, 1), 2);
        Check.same("meet", x.meet(1, 3), 1);
        Check.same("one taken, too", x.person(0, 14), 3);
        Check.same("of one taken, too", x.person(1, 14), 3);
        Check.same("paint", x.paint(2, 3), 0);
        Check.same("paint", x.paint(3, 3), 0);
        Check.same("as the pictures are now", x.person(0, 14), 3);
    }

    /** "Nothing is SEEN any more: how much was." */
    private static void promise23Forget() {
        Check.same("no sea", new ThumbSea().forget(), 0);
        for (int much = 0; much <= 8; much++) {
            ThumbSea x = seen(much);
            Check.same("forget", x.forget(), much);
            Check.same("forget again", x.forget(), 0);
            Check.same("seen", x.count(12), 0);
            Check.people(x, "choosies", 13, 1023, 1023, 1023, 1023);
            Check.same("as a new sea", x.digest(), seen(0).digest());
        }
    }

    /** "OUTSIDE: times (1 to 60), seed (0 at least), what; STATE: no SEA." */
    private static void promise24Seasons() {
        int[][] outside = {{LEAST, 0, 0}, {-1, 0, 0}, {0, 0, 0}, {61, 0, 0}, {GREATEST, 0, 0},
            {1, LEAST, 0}, {1, -1, 0}, {60, -1, 2}, {1, 0, LEAST}, {1, 0, -1}, {1, 0, 3},
            {60, GREATEST, 3}, {1, 0, GREATEST}, {0, -1, -1}, {61, -1, 3}};
        for (int[] row : outside) {
            Check.refused("seasons", Check.sea(FULL_SEA), ThumbSea.OUTSIDE,
                x -> x.seasons(row[0], row[1], row[2]));
            Check.refused("outside ahead of state", new ThumbSea(), ThumbSea.OUTSIDE,
                x -> x.seasons(row[0], row[1], row[2]));
        }
        int[][] inside = {{1, 0, 0}, {1, 0, 2}, {60, 0, 1}, {60, GREATEST, 2}, {1, GREATEST, 0}};
        for (int[] row : inside) {
            Check.refused("no sea", new ThumbSea(), ThumbSea.STATE,
                x -> x.seasons(row[0], row[1], row[2]));
            Check.refused("a page is none", Check.page("o000;o000"), ThumbSea.STATE,
                x -> x.seasons(row[0], row[1], row[2]));
            ThumbSea x = Check.sea(FULL_SEA);
            long before = x.digest();
            Check.same("an answer", x.seasons(row[0], row[1], row[2]) >= 0 ? 1 : 0, 1);
            Check.same("as they would be: nothing is changed", x.digest(), before);
        }
        ThumbSea x = Check.sea("g900;o000");
        Check.same("once", x.seasons(1, 0, 0), 1);
        Check.same("once by nine", x.seasons(1, 0, 1), 9);
        Check.same("60 times", x.seasons(60, GREATEST, 0), 60);
        Check.same("60 times by nine", x.seasons(60, GREATEST, 1), 540);
        Check.same("choose", x.choose(1, 9), 0);
        Check.same("as choosy as the picture", x.seasons(60, 1, 0), 60);
        Check.same("choose", x.choose(0, 1), 0);
        Check.same("never", x.seasons(60, 1, 0), 0);
        Check.same("so by nothing", x.seasons(60, 1, 1), 0);
        ThumbSea taken = Check.sea("o900;o000");
        Check.same("right", taken.show(0, 1), 1);
        Check.same("match", taken.show(1, 0), 2);
        Check.same("meet", taken.meet(0, 1), 1);
        Check.same("taken ones, too", taken.seasons(60, 1, 0), 60);
    }

    /** "1103515245 times it and 12345, its rest by 2 to the 31", twice each time. */
    private static void seedsWrapAround() {
        BigInteger by = BigInteger.TWO.pow(31);
        for (int seed : new int[] {0, 1, 65535, 65536, 1 << 30, GREATEST - 1, GREATEST}) {
            BigInteger now = BigInteger.valueOf(seed);
            for (int times = 1; times <= 60; times++) {
                for (int draw = 0; draw < 2; draw++) {
                    now = now.multiply(BigInteger.valueOf(1103515245)).add(BigInteger.valueOf(12345)).mod(by);
                }
                long got = Check.sea("o000;o000").seasons(times, seed, 2);
                Check.same("seed " + seed + " behind " + times, got, now.longValueExact());
            }
        }
    }

    /** "by a DRAW of how many there are": the first and the last of each SIDE are drawn, too. */
    private static void drawsOfEachSide() {
        // by how much two are apart tells which two they are
        ThumbSea x = Check.sea("o000,o100;o300,o500,o700,o900");
        boolean[] drawn = new boolean[10];
        for (int seed = 0; seed < 60; seed++) {
            long next = (1103515245L * seed + 12345) % 2147483648L;
            int one = (int) (next / 65536 % 2);
            next = (1103515245L * next + 12345) % 2147483648L;
            int other = 3 + 2 * (int) (next / 65536 % 4);
            Check.same("they like each other", x.seasons(1, seed, 0), 1);
            Check.same("apart by seed " + seed, x.seasons(1, seed, 1), other - one);
            drawn[other - one] = true;
        }
        for (int apart = 2; apart <= 9; apart++) {
            Check.same("two who are apart by " + apart, drawn[apart] ? 1 : 0, 1);
        }
        ThumbSea y = Check.sea("o500;o200");
        Check.same("apart, whoever is worth more", y.seasons(60, 3, 1), 180);
        Check.same("alike", Check.sea("o500;o500").seasons(60, 3, 1), 0);
    }

    /** "how many DAYS were over. STATE: no SEA." (one; the latest) */
    private static void promise25Image() {
        Check.refused("no sea", new ThumbSea(), ThumbSea.STATE, x -> x.image());
        ThumbSea page = Check.page("o000;o000");
        Check.refused("a page is none", page, ThumbSea.STATE, x -> x.image());
        Check.refused("none was kept", page, ThumbSea.STATE, x -> x.restore());
        Check.same("sea", page.sea(), 2);
        Check.refused("a refused image is none", page, ThumbSea.STATE, x -> x.restore());
        ThumbSea x = Check.sea("o000;o000");
        for (int day = 0; day <= 99; day++) {
            Check.same("image", x.image(), day);
            Check.same("next day", x.day(), day < 99 ? day + 1 : ThumbSea.FULL);
        }
        Check.same("the latest", x.restore(), 99);
        Check.same("days", x.count(9), 99);
        ThumbSea y = Check.sea("o000;o000");
        Check.same("image", y.image(), 0);
        Check.same("day", y.day(), 1);
        Check.same("image", y.image(), 1);
        Check.same("day", y.day(), 2);
        Check.same("one, not two", y.restore(), 1);
        Check.same("and it stays", y.restore(), 1);
    }

    /** "STATE: none was kept, or there is another SEA since." */
    private static void promise26Restore() {
        Check.refused("no sea", new ThumbSea(), ThumbSea.STATE, x -> x.restore());
        ThumbSea x = Check.sea("o000;o000");
        Check.refused("none was kept", x, ThumbSea.STATE, y -> y.restore());
        Check.same("image", x.image(), 0);
        Check.same("restore", x.restore(), 0);
        Check.write(x, "o000;o00");
        Check.same("a page that is none", x.sea(), ThumbSea.STATE);
        Check.same("is no other sea", x.restore(), 0);
        Check.same("the page is not kept, so it stays", x.letter('0'), 9);
        Check.same("another sea", x.sea(), 2);
        Check.refused("since", x, ThumbSea.STATE, y -> y.restore());
        Check.refused("again", x, ThumbSea.STATE, y -> y.restore());
        Check.same("day", x.day(), 1);
        Check.same("image", x.image(), 1);
        Check.same("day", x.day(), 2);
        Check.same("restore", x.restore(), 1);
        Check.same("how often a sea was read is not in it", x.count(14), 2);
        ThumbSea greater = Check.sea("o000,o000;o000");
        Check.same("image", greater.image(), 0);
        Check.write(greater, "o000;o000");
        Check.same("a lesser sea", greater.sea(), 2);
        Check.refused("since", greater, ThumbSea.STATE, y -> y.restore());
        Check.same("nobody of before", greater.person(2, 0), ThumbSea.UNKNOWN);
    }

    /** A sea in which something of each that an IMAGE keeps is there. */
    private static ThumbSea lived() {
        ThumbSea x = Check.sea("o900,o805,o700;h900,o309,o800");
        Check.same("right", x.show(0, 3), 1);
        Check.same("match", x.show(3, 0), 2);
        Check.same("meet", x.meet(0, 3), 1);
        Check.same("left", x.show(1, 4), 0);
        Check.same("back", x.back(1, 4), 0);
        Check.same("day", x.day(), 1);
        Check.same("right", x.show(2, 5), 1);
        Check.same("match", x.show(5, 2), 2);
        Check.same("left", x.show(4, 2), 0);
        Check.same("limit", x.limit(5), 9);
        Check.same("see", x.see(1, 3, true), 1);
        Check.same("see", x.see(1, 4, false), 2);
        return x;
    }

    private static void changed(String what, Check.Call... changes) {
        ThumbSea x = lived();
        Check.same("image", x.image(), 1);
        long before = x.digest();
        for (Check.Call change : changes) {
            Check.same(what + " is taken", change.on(x) >= 0 ? 1 : 0, 1);
        }
        Check.same(what + " changes something", x.digest() != before ? 1 : 0, 1);
        Check.same("restore", x.restore(), 1);
        Check.same(what + " is kept", x.digest(), before);
        // the image itself is not what goes on
        for (Check.Call change : changes) {
            change.on(x);
        }
        Check.same("restore again", x.restore(), 1);
        Check.same(what + " is kept still", x.digest(), before);
    }

    /** "An IMAGE keeps FLATTERY, CHOOSY, who was SHOWN to whom, .., the LIMIT, DAYS, money, SEEN." */
    private static void imageKeepsEach() {
        changed("flattery", x -> x.paint(1, 3));
        changed("choosy", x -> x.choose(1, 0));
        changed("a right", x -> x.show(1, 5));
        changed("a left", x -> x.show(1, 4));
        changed("a match", x -> x.show(1, 5), x -> x.show(5, 1));
        changed("a back", x -> x.back(2, 5));
        changed("a row", x -> x.back(4, 2), x -> x.show(4, 2));
        changed("a day", x -> x.day());
        changed("99 days", manyDays());
        changed("a meeting", x -> x.meet(2, 5));
        changed("a meeting that fails", x -> x.choose(2, 9), x -> x.meet(2, 5));
        changed("a parting", x -> x.part(0));
        changed("another couple", x -> x.part(0), x -> x.meet(2, 5));
        changed("the limit", x -> x.limit(1));
        changed("seen", x -> x.see(0, 3, false));
        changed("forgotten", x -> x.forget());
        changed("seen otherwise", x -> x.forget(), x -> x.see(1, 4, true), x -> x.see(2, 4, true));
    }

    private static Check.Call[] manyDays() {
        Check.Call[] days = new Check.Call[98];
        java.util.Arrays.fill(days, (Check.Call) x -> x.day());
        return days;
    }

    /** "they change nothing": not the IMAGE either, which the digest does not tell. */
    private static void refusedCallsLeaveTheImage() {
        ThumbSea x = lived();
        Check.same("image", x.image(), 1);
        long before = x.digest();
        Check.same("day", x.day(), 2);
        Check.same("choose", x.choose(0, 7), 0);
        Check.refused("letter", x, ThumbSea.OUTSIDE, y -> y.letter(31));
        Check.refused("sea", x, ThumbSea.STATE, y -> y.sea());
        Check.refused("person", x, ThumbSea.OUTSIDE, y -> y.person(0, 15));
        Check.refused("as", x, ThumbSea.OUTSIDE, y -> y.as(0, 5));
        Check.refused("choose", x, ThumbSea.OUTSIDE, y -> y.choose(0, 10));
        Check.refused("paint", x, ThumbSea.OUTSIDE, y -> y.paint(0, 4));
        Check.refused("limit", x, ThumbSea.OUTSIDE, y -> y.limit(10));
        Check.refused("show", x, ThumbSea.STATE, y -> y.show(0, 3));
        Check.refused("back", x, ThumbSea.STATE, y -> y.back(0, 3));
        Check.refused("meet", x, ThumbSea.STATE, y -> y.meet(0, 3));
        Check.refused("part", x, ThumbSea.STATE, y -> y.part(1));
        Check.refused("lasting", x, ThumbSea.OUTSIDE, y -> y.lasting(14));
        Check.refused("comes", x, ThumbSea.OUTSIDE, y -> y.comes(9, 1, 0));
        Check.refused("best", x, ThumbSea.OUTSIDE, y -> y.best(9, 0));
        Check.refused("waiting", x, ThumbSea.OUTSIDE, y -> y.waiting(9, 0, 0));
        Check.refused("howMany", x, ThumbSea.OUTSIDE, y -> y.howMany(9));
        Check.refused("see", x, ThumbSea.STATE, y -> y.see(0, 1, true));
        Check.refused("seasons", x, ThumbSea.OUTSIDE, y -> y.seasons(61, 0, 0));
        Check.refused("count", x, ThumbSea.OUTSIDE, y -> y.count(15));
        Check.same("restore", x.restore(), 1);
        Check.same("all as it was kept", x.digest(), before);
    }

    /** "what = 0 .. 14. OUTSIDE." */
    private static void promise27Count() {
        for (int what : new int[] {LEAST, -1, 15, 16, GREATEST}) {
            Check.refused("count " + what, new ThumbSea(), ThumbSea.OUTSIDE, x -> x.count(what));
            Check.refused("count " + what, Check.page("o0"), ThumbSea.OUTSIDE, x -> x.count(what));
            Check.refused("count " + what, lived(), ThumbSea.OUTSIDE, x -> x.count(what));
        }
        Check.counts(new ThumbSea(), "(0: no SEA)", 0, 0, 0, 0, 0, 0, 0, 0, 0, 0, 0, 0, 0, 0, 0);
        Check.counts(Check.page("o0"), "a page alone", 0, 0, 0, 0, 0, 0, 0, 0, 0, 0, 0, 0, 0, 2, 0);
        ThumbSea x = lived();
        long before = x.digest();
        Check.counts(x, "lived", 3, 3, 4, 1, 0, 1, 4, 2, 5, 1, 1, 1, 2, 0, 1);
        Check.same("told, not changed", x.digest(), before);
    }

    private static void countsAtTheEdge() {
        Check.counts(Check.sea("g000;g000"), "all gone", 1, 1, 0, 0, 2, 0, 0, 0, 9, 0, 0, 0, 0, 0, 1);
        String full = "o000,o000,o000,o000;o000,o000,o000,o000";
        ThumbSea x = Check.sea(full);
        for (int one = 0; one < 4; one++) {
            for (int other = 4; other < 8; other++) {
                Check.same("right", x.show(one, other), 1);
                Check.same("match", x.show(other, one), 2);
            }
        }
        Check.counts(x, "most matches", 4, 4, 8, 0, 0, 16, 32, 0, 9, 0, 0, 0, 0, 0, 1);
        for (int one = 0; one < 4; one++) {
            Check.same("meet", x.meet(one, 7 - one), 1);
        }
        Check.counts(x, "all taken", 4, 4, 0, 4, 0, 12, 32, 0, 9, 0, 0, 4, 0, 0, 1);
        Check.people(x, "match", 10, 240, 240, 240, 240, 15, 15, 15, 15);
        for (int read = 2; read <= 9; read++) {
            Check.write(x, full);
            Check.same("sea", x.sea(), 8);
            Check.same("read", x.count(14), read);
        }
    }

    /** The numbers of a digest, each as told by its own call. */
    private static BigInteger folded(ThumbSea x, String page) {
        BigInteger h = BigInteger.valueOf(1123);
        int people = x.count(0) + x.count(1);
        for (int person = 0; person < people; person++) {
            for (int what = 0; what <= 14; what++) {
                h = fold(h, x.person(person, what));
            }
        }
        if (people > 0) {
            for (int what : new int[] {0, 1, 10, 11, 12, 13}) {
                h = fold(h, x.lasting(what));
            }
            h = fold(fold(fold(h, x.mutual()), x.best(3, 0)), x.best(3, 1));
        }
        for (int place = 0; place < page.length(); place++) {
            h = fold(h, page.charAt(place));
        }
        for (int what = 0; what <= 14; what++) {
            h = fold(h, x.count(what));
        }
        return h;
    }

    private static BigInteger fold(BigInteger h, int number) {
        return h.multiply(BigInteger.valueOf(31)).add(BigInteger.valueOf(number));
    }

    /** "of each one ..; with a SEA ..; letters of THE PAGE; what count() tells": empty and full. */
    private static void promise28Digest() {
        String page = FULL_SEA + " ~";
        ThumbSea[] seas = {new ThumbSea(), Check.page(page), Check.sea("g000;g000"),
            Check.sea(FULL_SEA), Check.sea(FULL_SEA), lived(), seen(8),
            Check.sea("g421,s738,e706;o522")};
        Check.same("best by number", seas[7].best(3, 0), 3);
        Check.same("best by picture is another one", seas[7].best(3, 1), 2);
        Check.write(seas[4], page);
        for (int i = 0; i < seas.length; i++) {
            String letters = i == 1 || i == 4 ? page : "";
            Check.same("digest " + i, seas[i].digest(), folded(seas[i], letters).longValue());
            Check.same("digest again", seas[i].digest(), folded(seas[i], letters).longValue());
        }
        Check.same("letters are told one by one", Check.page("ab").digest() != Check.page("ba").digest()
            ? 1 : 0, 1);
    }

    /** "(as longs, wrapping)": the sum is far beyond a long, and not cut to an int on its way. */
    private static void digestWrapsAround() {
        ThumbSea x = lived();
        BigInteger whole = folded(x, "");
        Check.same("more than a long holds", whole.bitLength() > 64 ? 1 : 0, 1);
        BigInteger wrapped = whole.mod(BigInteger.TWO.pow(64));
        long due = wrapped.testBit(63) ? wrapped.subtract(BigInteger.TWO.pow(64)).longValueExact()
            : wrapped.longValueExact();
        Check.same("wrapped", x.digest(), due);
        Check.same("not as an int", x.digest() != (int) x.digest() ? 1 : 0, 1);
        // 1123 times 31 to the 15, with all counts 0
        Check.same("of a new object", new ThumbSea().digest(),
            BigInteger.valueOf(1123).multiply(BigInteger.valueOf(31).pow(15)).longValue());
    }
}
