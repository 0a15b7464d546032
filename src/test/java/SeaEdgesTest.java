/** The edges of the terms of a SEA and of promises 1 to 10, sentence by sentence. */
public final class SeaEdgesTest {
    private static final int LEAST = Integer.MIN_VALUE;
    private static final int GREATEST = Integer.MAX_VALUE;
    private static final String FULL_SEA = "o000,e111,h222,s333;g434,o525,e616,h707";

    public static void main(String[] args) {
        digitsOfAPerson();
        kindsByTheLetter();
        numbersOfPeople();
        atFirst();
        promise1NewObject();
        promise2Letter();
        promise3Blank();
        promise4Fault();
        promise5Sea();
        anotherSeaIsGone();
        nobodyOfAGreaterSeaIsLeft();
        promise6Person();
        promise7As();
        promise8Choose();
        promise9Paint();
        promise10Limit();
        Check.end();
    }

    /** "WORTH (0 to 9), FLATTERY (0 to 3), CHOOSY (0 to 9)". */
    private static void digitsOfAPerson() {
        int[] greatest = {9, 3, 9};
        for (int place = 1; place <= 3; place++) {
            // '/' is ahead of '0', ':' is behind '9'
            for (char digit = '/'; digit <= ':'; digit++) {
                StringBuilder text = new StringBuilder("o000;o000");
                text.setCharAt(place, digit);
                boolean within = digit >= '0' && digit <= '0' + greatest[place - 1];
                ThumbSea x = Check.page(text.toString());
                Check.same("fault of " + text, x.fault(), within ? 9 : place);
                Check.same("sea of " + text, x.sea(), within ? 2 : ThumbSea.STATE);
                Check.same("told of " + text, x.person(0, place),
                    within ? digit - '0' : ThumbSea.UNKNOWN);
            }
        }
    }

    /** "KINDS are told by the letter": any other one is none, its neighbours and capitals, too. */
    private static void kindsByTheLetter() {
        for (int code = 32; code <= 126; code++) {
            int kind = "oehsg".indexOf(code);
            ThumbSea x = Check.page((char) code + "000;o000");
            Check.same("fault of kind " + code, x.fault(), kind >= 0 ? 9 : 0);
            Check.same("sea of kind " + code, x.sea(), kind >= 0 ? 2 : ThumbSea.STATE);
            Check.same("kind " + code, x.person(0, 0), kind >= 0 ? kind : ThumbSea.UNKNOWN);
            ThumbSea second = Check.page("o000;" + (char) code + "000");
            Check.same("fault of second kind " + code, second.fault(), kind >= 0 ? 9 : 5);
        }
    }

    private static String sideOf(int people) {
        return "o000,o000,o000,o000,o000".substring(0, 5 * people - 1);
    }

    /** "one to four PEOPLE each"; "numbered from 0, those of the second SIDE behind". */
    private static void numbersOfPeople() {
        for (int first = 1; first <= 4; first++) {
            for (int second = 1; second <= 4; second++) {
                ThumbSea x = Check.sea(sideOf(first) + ";" + sideOf(second));
                int last = first + second - 1;
                Check.same("first side", x.count(0), first);
                Check.same("second side", x.count(1), second);
                Check.same("person -1", x.person(-1, 4), ThumbSea.UNKNOWN);
                Check.same("person 0", x.person(0, 4), 0);
                Check.same("last of the first side", x.person(first - 1, 4), 0);
                Check.same("first of the second side", x.person(first, 4), 1);
                Check.same("last person", x.person(last, 4), 1);
                Check.same("behind the last person", x.person(last + 1, 4), ThumbSea.UNKNOWN);
            }
        }
        String[] none = {";o000", "o000;", ";", sideOf(5) + ";o000", "o000;" + sideOf(5)};
        int[] faults = {0, 5, 0, 19, 24};
        for (int i = 0; i < none.length; i++) {
            ThumbSea x = Check.page(none[i]);
            Check.same("fault of " + none[i], x.fault(), faults[i]);
            Check.refused("sea of " + none[i], x, ThumbSea.STATE, y -> y.sea());
        }
    }

    /** "At first there is none; then nobody was SHOWN, LIMIT is 9." */
    private static void atFirst() {
        ThumbSea none = new ThumbSea();
        Check.same("no limit", none.count(8), 0);
        ThumbSea x = Check.sea(FULL_SEA);
        Check.same("limit", x.count(8), 9);
        Check.counts(x, "at first", 4, 4, 7, 0, 1, 0, 0, 0, 9, 0, 0, 0, 0, 0, 1);
        for (int what = 8; what <= 12; what++) {
            Check.people(x, "at first", what, 0, 0, 0, 0, 0, 0, 0, 0);
        }
    }

    /** "No SEA": each call that asks for one, or for somebody. */
    private static void promise1NewObject() {
        int unknown = ThumbSea.UNKNOWN;
        int state = ThumbSea.STATE;
        Check.refused("sea", new ThumbSea(), state, x -> x.sea());
        Check.refused("person", new ThumbSea(), unknown, x -> x.person(0, 0));
        Check.refused("as", new ThumbSea(), unknown, x -> x.as(0, 0));
        Check.refused("choose", new ThumbSea(), unknown, x -> x.choose(0, 0));
        Check.refused("paint", new ThumbSea(), unknown, x -> x.paint(0, 0));
        Check.refused("limit", new ThumbSea(), state, x -> x.limit(9));
        Check.refused("show", new ThumbSea(), unknown, x -> x.show(0, 1));
        Check.refused("back", new ThumbSea(), unknown, x -> x.back(0, 1));
        Check.refused("day", new ThumbSea(), state, x -> x.day());
        Check.refused("meet", new ThumbSea(), unknown, x -> x.meet(0, 1));
        Check.refused("part", new ThumbSea(), unknown, x -> x.part(0));
        Check.refused("lasting", new ThumbSea(), state, x -> x.lasting(0));
        Check.refused("mutual", new ThumbSea(), state, x -> x.mutual());
        Check.refused("comes", new ThumbSea(), state, x -> x.comes(1, 1, 0));
        Check.refused("best", new ThumbSea(), state, x -> x.best(1, 0));
        Check.refused("see", new ThumbSea(), unknown, x -> x.see(0, 1, true));
        Check.refused("seasons", new ThumbSea(), state, x -> x.seasons(1, 0, 0));
        Check.refused("image", new ThumbSea(), state, x -> x.image());
        Check.refused("restore", new ThumbSea(), state, x -> x.restore());
        ThumbSea x = new ThumbSea();
        Check.counts(x, "new", 0, 0, 0, 0, 0, 0, 0, 0, 0, 0, 0, 0, 0, 0, 0);
        Check.same("fault", x.fault(), 0);
        Check.same("blank", x.blank(), 0);
        Check.same("forget", x.forget(), 0);
        Check.same("waiting asks for no sea", x.waiting(2, 0, 1), 2);
        Check.same("how many asks for no sea", x.howMany(2), 0);
    }

    private static ThumbSea pageOf(int letters) {
        ThumbSea x = new ThumbSea();
        for (int n = 1; n <= letters; n++) {
            Check.same("letter " + n, x.letter('0'), n);
        }
        return x;
    }

    /** "how many THE PAGE has. OUTSIDE: code (32 to 126); FULL: above 41." */
    private static void promise2Letter() {
        for (int code : new int[] {LEAST, -1, 0, 31, 127, 128, 255, 65536 + 111, GREATEST}) {
            Check.refused("letter " + code, pageOf(0), ThumbSea.OUTSIDE, x -> x.letter(code));
            Check.refused("letter behind one", pageOf(1), ThumbSea.OUTSIDE, x -> x.letter(code));
            Check.refused("outside ahead of full", pageOf(41), ThumbSea.OUTSIDE, x -> x.letter(code));
        }
        for (int code = 32; code <= 126; code++) {
            int letter = code;
            Check.same("letter " + code, pageOf(0).letter(code), 1);
            Check.same("the last one that fits", pageOf(40).letter(code), 41);
            Check.refused("the 42nd", pageOf(41), ThumbSea.FULL, x -> x.letter(letter));
        }
        ThumbSea x = pageOf(41);
        Check.same("full", x.letter('0'), ThumbSea.FULL);
        Check.same("blank", x.blank(), 41);
        Check.same("it fits again", x.letter('0'), 1);
        ThumbSea y = Check.sea(FULL_SEA);
        Check.same("a sea was read, so the page is empty", y.letter('0'), 1);
    }

    /** "THE PAGE is empty: how many letters it had." */
    private static void promise3Blank() {
        for (int letters : new int[] {0, 1, 2, 40, 41}) {
            ThumbSea x = pageOf(letters);
            Check.same("blank", x.blank(), letters);
            Check.same("empty", x.count(13), 0);
            Check.same("empty", x.fault(), 0);
            Check.same("blank of an empty one", x.blank(), 0);
        }
        ThumbSea x = Check.sea("o939;g000");
        Check.same("image", x.image(), 0);
        long before = x.digest();
        Check.write(x, "o939;o000");
        Check.same("blank", x.blank(), 9);
        Check.same("the sea stays", x.digest(), before);
        Check.same("the image stays", x.restore(), 0);
        Check.same("no letter stays", x.sea(), ThumbSea.STATE);
    }

    /** "The place of the first letter that no SEA has there; how many, if there is none." */
    private static void promise4Fault() {
        Check.same("empty", new ThumbSea().fault(), 0);
        for (int length = 0; length <= FULL_SEA.length(); length++) {
            String ahead = FULL_SEA.substring(0, length);
            Check.same("fault of " + ahead, Check.page(ahead).fault(), length);
            for (int code = 32; code <= 126; code++) {
                ThumbSea x = Check.page(ahead + (char) code);
                boolean fits = fitsIntoFullSea(length, (char) code);
                Check.same("fault of " + ahead + (char) code, x.fault(), fits ? length + 1 : length);
            }
        }
        // a full page: the first fault is told, not the last one
        Check.same("41 letters", Check.page(FULL_SEA + ",o").fault(), 39);
        Check.same("41 letters", Check.page("x" + FULL_SEA.substring(1) + ",o").fault(), 0);
        Check.same("41 letters", pageOf(41).fault(), 0);
        ThumbSea x = Check.page("o0x");
        long before = x.digest();
        Check.same("fault", x.fault(), 2);
        Check.same("fault changes nothing", x.digest(), before);
    }

    /** What may stand at a place of FULL_SEA behind what stands there. */
    private static boolean fitsIntoFullSea(int place, char letter) {
        switch (place % 5) {
            case 0: return place < 39 && "oehsg".indexOf(letter) >= 0;
            case 2: return letter >= '0' && letter <= '3';
            case 4: return place == 19 ? letter == ';' : place < 19 ? letter == ',' || letter == ';'
                : place < 39 && letter == ',';
            default: return letter >= '0' && letter <= '9';
        }
    }

    /** "how many PEOPLE; THE PAGE is empty then. STATE: it is none." */
    private static void promise5Sea() {
        for (int length = 0; length < FULL_SEA.length(); length++) {
            // behind the first of the second side each whole person makes a sea
            boolean isSea = length >= 24 && length % 5 == 4;
            ThumbSea x = Check.page(FULL_SEA.substring(0, length));
            if (!isSea) {
                Check.refused("sea of " + length, x, ThumbSea.STATE, y -> y.sea());
                continue;
            }
            Check.same("sea of " + length, x.sea(), (length + 1) / 5);
            Check.same("the page is empty", x.count(13), 0);
            Check.refused("an empty page", x, ThumbSea.STATE, y -> y.sea());
        }
        ThumbSea longer = Check.page(FULL_SEA + "o");
        Check.refused("a letter behind a sea", longer, ThumbSea.STATE, y -> y.sea());
        ThumbSea x = Check.sea("o900;o900");
        Check.same("right", x.show(0, 1), 1);
        Check.same("image", x.image(), 0);
        Check.same("match", x.show(1, 0), 2);
        Check.write(x, "o900;o90");
        Check.refused("none", x, ThumbSea.STATE, y -> y.sea());
        Check.same("what was is not gone", x.count(5), 1);
        Check.same("nor is the image", x.restore(), 0);
        Check.same("match is none", x.count(5), 0);
        Check.same("the page stays", x.letter('0'), 9);
        Check.same("a sea now", x.sea(), 2);
        Check.counts(x, "another sea", 1, 1, 2, 0, 0, 0, 0, 0, 9, 0, 0, 0, 0, 0, 2);
        Check.refused("its image is gone", x, ThumbSea.STATE, y -> y.restore());
    }

    /** "another one is gone, with all that was": then all is told as of a new object's SEA. */
    private static void anotherSeaIsGone() {
        String text = "o900,h905,o900;o900,o809,e900";
        ThumbSea x = Check.sea(text);
        Check.same("right", x.show(0, 3), 1);
        Check.same("match", x.show(3, 0), 2);
        Check.same("meet", x.meet(0, 3), 1);
        Check.same("right", x.show(2, 5), 1);
        Check.same("match", x.show(5, 2), 2);
        Check.same("right", x.show(1, 4), 1);
        Check.same("back", x.back(1, 4), 1);
        Check.same("limit", x.limit(1), 9);
        Check.same("left", x.show(1, 4), 0);
        Check.same("choose", x.choose(5, 9), 0);
        Check.same("paint", x.paint(0, 3), 0);
        Check.same("see", x.see(1, 4, false), 1);
        Check.same("image", x.image(), 0);
        Check.same("day", x.day(), 1);
        Check.same("right", x.show(1, 5), 1);
        ThumbSea fresh = Check.sea(text);
        Check.write(x, text);
        Check.same("another sea", x.sea(), 6);
        for (int person = 0; person < 6; person++) {
            for (int what = 0; what <= 14; what++) {
                Check.same("person " + person + " " + what, x.person(person, what),
                    fresh.person(person, what));
            }
        }
        for (int what = 0; what <= 13; what++) {
            Check.same("count " + what, x.count(what), fresh.count(what));
        }
        Check.same("read twice", x.count(14), 2);
        Check.refused("no image", x, ThumbSea.STATE, y -> y.restore());
    }

    /** Those of a greater SEA, whose pictures are greater, are in nothing that is told of a lesser one. */
    private static void nobodyOfAGreaterSeaIsLeft() {
        String greater = "o930,o930,o930,o930;o930,o930,o930,o930";
        String[] lesser = {"o000;o000", "o000,o000;o000", "o001;o100,o010,o109,o209", "h001;o100,o000"};
        for (String text : lesser) {
            ThumbSea x = Check.sea(greater);
            Check.write(x, text);
            Check.same("a lesser sea", x.sea(), (text.length() + 1) / 5);
            ThumbSea fresh = Check.sea(text);
            for (int what : new int[] {0, 1, 10, 11, 12, 13}) {
                Check.same(text + " lasting " + what, x.lasting(what), fresh.lasting(what));
            }
            for (int order = 0; order <= 1; order++) {
                for (int days = 1; days <= 2; days++) {
                    Check.same(text + " comes", x.comes(days, 9, order), fresh.comes(days, 9, order));
                    Check.same(text + " best", x.best(days, order), fresh.best(days, order));
                }
            }
            Check.same(text + " mutual", x.mutual(), fresh.mutual());
            Check.same(text + " seasons", x.seasons(60, 1, 1), fresh.seasons(60, 1, 1));
            for (int person = 0; person < 8; person++) {
                Check.same(text + " person", x.person(person, 7), fresh.person(person, 7));
                Check.same(text + " person", x.person(person, 14), fresh.person(person, 14));
            }
        }
    }

    /** People who lived a little: 0 and 3 a couple, 1 went left, 2 is eager, 4 is gone. */
    private static ThumbSea lived() {
        ThumbSea x = Check.sea("o900,h405,e000;s900,g309");
        Check.same("right", x.show(0, 3), 1);
        Check.same("match", x.show(3, 0), 2);
        Check.same("left", x.show(1, 4), 0);
        Check.same("meet", x.meet(0, 3), 1);
        Check.same("see", x.see(1, 3, false), 1);
        return x;
    }

    private static final int[] NOBODY = {LEAST, -1, 5, 8, GREATEST};

    /** "what = 0 .. 14. UNKNOWN; OUTSIDE." */
    private static void promise6Person() {
        for (int person : NOBODY) {
            for (int what : new int[] {LEAST, -1, 0, 14, 15, GREATEST}) {
                Check.refused("person", lived(), ThumbSea.UNKNOWN, x -> x.person(person, what));
            }
        }
        for (int what : new int[] {LEAST, -1, 15, GREATEST}) {
            Check.refused("person 0", lived(), ThumbSea.OUTSIDE, x -> x.person(0, what));
            Check.refused("person 4", lived(), ThumbSea.OUTSIDE, x -> x.person(4, what));
        }
        ThumbSea x = lived();
        long before = x.digest();
        int[][] due = {
            {0, 9, 0, 0, 0, 1, 3, 24, 8, 0, 8, 0, 1, 1023, 4},
            {2, 4, 0, 5, 0, 0, -1, 8, 0, 16, 0, 1, 0, 0, -1},
            {1, 0, 0, 0, 0, 0, -1, 24, 0, 0, 0, 0, 0, 1023, 3},
            {3, 9, 0, 0, 1, 1, 0, 7, 1, 0, 1, 0, 1, 1023, 1},
            {4, 3, 0, 9, 1, 2, -1, 1, 0, 0, 0, 0, 0, 1023, 1}};
        for (int person = 0; person < due.length; person++) {
            for (int what = 0; what <= 14; what++) {
                Check.same("person " + person + " " + what, x.person(person, what), due[person][what]);
            }
        }
        Check.same("told, not changed", x.digest(), before);
        likesAtTheEdge();
    }

    /** "if that PICTURE is as much as one is CHOOSY, or more; an EAGER one LIKES all". */
    private static void likesAtTheEdge() {
        for (int kind = 0; kind < 5; kind++) {
            ThumbSea x = Check.sea("oehsg".charAt(kind) + "000;o000");
            for (int choosy = 0; choosy <= 9; choosy++) {
                x.choose(0, choosy);
                for (int flattery = 0; flattery <= 3; flattery++) {
                    x.paint(1, flattery);
                    boolean likes = kind == 1 || flattery >= choosy;
                    Check.same("likes", x.person(0, 7), likes ? 2 : 0);
                }
            }
        }
        for (int worth = 0; worth <= 9; worth++) {
            for (int flattery = 0; flattery <= 3; flattery++) {
                ThumbSea x = Check.sea("o000;o" + worth + flattery + "0");
                for (int choosy = 0; choosy <= 9; choosy++) {
                    x.choose(0, choosy);
                    Check.same("likes " + worth + "+" + flattery + " by " + choosy, x.person(0, 7),
                        worth + flattery >= choosy ? 2 : 0);
                }
            }
        }
    }

    /** "his number; NONE: he is none such. UNKNOWN; OUTSIDE." */
    private static void promise7As() {
        for (int person : NOBODY) {
            for (int kind : new int[] {LEAST, -1, 0, 4, 5, GREATEST}) {
                Check.refused("as", lived(), ThumbSea.UNKNOWN, x -> x.as(person, kind));
            }
        }
        for (int kind : new int[] {LEAST, -1, 5, GREATEST}) {
            Check.refused("as", lived(), ThumbSea.OUTSIDE, x -> x.as(0, kind));
            Check.refused("as of one gone", lived(), ThumbSea.OUTSIDE, x -> x.as(4, kind));
        }
        ThumbSea x = Check.sea("o000,e000,h000;s000,g000");
        long before = x.digest();
        String[] kinds = {"0", "01", "02", "03", "034"};
        for (int person = 0; person < 5; person++) {
            for (int kind = 0; kind <= 4; kind++) {
                boolean such = kinds[person].indexOf('0' + kind) >= 0;
                Check.same("as " + person + " " + kind, x.as(person, kind), such ? person : ThumbSea.NONE);
            }
        }
        Check.same("told, not changed", x.digest(), before);
    }

    /** "how CHOOSY he was. UNKNOWN; OUTSIDE: choosy (0 to 9)." */
    private static void promise8Choose() {
        for (int person : NOBODY) {
            for (int choosy : new int[] {LEAST, -1, 0, 9, 10, GREATEST}) {
                Check.refused("choose", lived(), ThumbSea.UNKNOWN, x -> x.choose(person, choosy));
            }
        }
        for (int choosy : new int[] {LEAST, -1, 10, GREATEST}) {
            Check.refused("choose", lived(), ThumbSea.OUTSIDE, x -> x.choose(0, choosy));
            Check.refused("choose of one gone", lived(), ThumbSea.OUTSIDE, x -> x.choose(4, choosy));
        }
        for (int person = 0; person < 5; person++) {
            ThumbSea x = lived();
            int was = x.person(person, 3);
            for (int choosy = 0; choosy <= 9; choosy++) {
                Check.same("choose", x.choose(person, choosy), was);
                Check.same("choosy", x.person(person, 3), choosy);
                was = choosy;
            }
            Check.same("back to 0", x.choose(person, 0), 9);
        }
        ThumbSea x = lived();
        Check.same("a couple", x.choose(0, 9), 0);
        Check.same("stays one, however choosy", x.person(0, 6), 3);
        Check.same("what was shown stays", x.person(0, 8), 8);
    }

    /** "how much it did. UNKNOWN; OUTSIDE: flattery (0 to 3)." */
    private static void promise9Paint() {
        for (int person : NOBODY) {
            for (int flattery : new int[] {LEAST, -1, 0, 3, 4, GREATEST}) {
                Check.refused("paint", lived(), ThumbSea.UNKNOWN, x -> x.paint(person, flattery));
            }
        }
        for (int flattery : new int[] {LEAST, -1, 4, 9, GREATEST}) {
            Check.refused("paint", lived(), ThumbSea.OUTSIDE, x -> x.paint(0, flattery));
            Check.refused("paint of one gone", lived(), ThumbSea.OUTSIDE, x -> x.paint(4, flattery));
        }
        for (int person = 0; person < 5; person++) {
            ThumbSea x = lived();
            int was = 0;
            for (int flattery : new int[] {0, 1, 2, 3, 0, 3}) {
                Check.same("paint", x.paint(person, flattery), was);
                Check.same("flattery", x.person(person, 2), flattery);
                was = flattery;
            }
        }
        ThumbSea x = Check.sea("o902;o000");
        Check.same("paint", x.paint(1, 3), 0);
        Check.same("right by the picture", x.show(0, 1), 1);
        Check.same("paint", x.paint(1, 0), 3);
        Check.same("who was shown stays", x.person(0, 8), 2);
    }

    /** "which there was. OUTSIDE: limit (1 to 9); STATE: no SEA." */
    private static void promise10Limit() {
        for (int limit : new int[] {LEAST, -1, 0, 10, GREATEST}) {
            Check.refused("limit", lived(), ThumbSea.OUTSIDE, x -> x.limit(limit));
            Check.refused("outside ahead of state", new ThumbSea(), ThumbSea.OUTSIDE,
                x -> x.limit(limit));
            Check.refused("with a page alone", Check.page("o000;o000"), ThumbSea.OUTSIDE,
                x -> x.limit(limit));
        }
        for (int limit = 1; limit <= 9; limit++) {
            int inside = limit;
            Check.refused("no sea", new ThumbSea(), ThumbSea.STATE, x -> x.limit(inside));
            ThumbSea x = lived();
            Check.same("limit at first", x.limit(limit), 9);
            Check.same("limit", x.count(8), limit);
            Check.same("limit again", x.limit(limit), limit);
        }
        Check.refused("a page is no sea yet", Check.page("o000;o000"), ThumbSea.STATE, x -> x.limit(1));
    }
}
