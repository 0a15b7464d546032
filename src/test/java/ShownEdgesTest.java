/** The edges of who is SHOWN, and of promises 11 to 15, sentence by sentence. */
public final class ShownEdgesTest {
    private static final int LEAST = Integer.MIN_VALUE;
    private static final int GREATEST = Integer.MAX_VALUE;
    private static final int[] NOBODY = {LEAST, -1, 6, 8, GREATEST};

    public static void main(String[] args) {
        limitOfADay();
        limitAndOthers();
        hastyRow();
        hastyAndTheRest();
        shyBefore();
        goneAreShown();
        promise11Show();
        promise12Back();
        promise13Day();
        promise14Meet();
        contentAtTheEdge();
        failedMeetingCountsForNothing();
        promise15Part();
        partCountsForNothing();
        Check.end();
    }

    /** "RIGHT, if he went RIGHT fewer times on that DAY than the LIMIT is". */
    private static void limitOfADay() {
        for (int limit = 1; limit <= 9; limit++) {
            for (String kind : new String[] {"o", "e", "h"}) {
                ThumbSea x = Check.sea(kind + "000;o000");
                Check.same("limit", x.limit(limit), 9);
                for (int right = 1; right <= limit; right++) {
                    Check.same("right " + right + " of " + limit, x.show(0, 1), 1);
                    Check.same("rights on that day", x.person(0, 12), right);
                    Check.same("back", x.back(0, 1), 1);
                }
                Check.same("one above " + limit, x.show(0, 1), 0);
                Check.same("rights on that day", x.person(0, 12), limit);
                Check.same("a row begins", x.person(0, 11), 1);
                Check.same("back", x.back(0, 1), 0);
                Check.same("day", x.day(), 1);
                Check.same("no rights on that day", x.person(0, 12), 0);
                Check.same("right again", x.show(0, 1), 1);
                Check.same("the row ends", x.person(0, 11), 0);
                Check.same("rights in all", x.count(6), limit + 1);
                Check.same("lefts in all", x.count(7), 1);
            }
        }
    }

    /** A LIMIT that is lowered below the RIGHTS of that DAY, and LEFTS, which do not count for it. */
    private static void limitAndOthers() {
        ThumbSea x = Check.sea("o001,o000;o000,o100,o100,o100");
        Check.same("left", x.show(0, 2), 0);
        Check.same("limit", x.limit(2), 9);
        Check.same("lefts do not count", x.show(0, 3), 1);
        Check.same("the second one", x.show(0, 4), 1);
        Check.same("limit", x.limit(1), 2);
        Check.same("two are more than one", x.show(0, 5), 0);
        Check.same("another one's are his own", x.show(1, 2), 1);
        Check.same("a second one is not", x.show(1, 3), 0);
        Check.same("who is shown does not go", x.show(3, 0), 2);
        Check.people(x, "that day", 12, 2, 1, 0, 1, 0, 0);
        Check.same("day", x.day(), 1);
        Check.people(x, "next day", 12, 0, 0, 0, 0, 0, 0);
        Check.people(x, "the row stays", 11, 1, 1, 0, 0, 0, 0);
        Check.people(x, "right stays", 8, 24, 4, 0, 1, 0, 0);
        Check.people(x, "left stays", 9, 36, 8, 0, 0, 0, 0);
    }

    /** "behind two LEFTS in a row (not behind three, but behind five, and so on)". */
    private static void hastyRow() {
        for (int lefts = 0; lefts <= 20; lefts++) {
            ThumbSea x = Check.sea("h001;o000,o100");
            for (int left = 1; left <= lefts; left++) {
                Check.same("left", x.show(0, 1), 0);
                Check.same("back", x.back(0, 1), 0);
                Check.same("in a row", x.person(0, 11), left);
            }
            boolean hastens = lefts % 3 == 2;
            Check.same("a liked one behind " + lefts, x.show(0, 2), hastens ? 0 : 1);
            Check.same("row behind " + lefts, x.person(0, 11), hastens ? lefts + 1 : 0);
            Check.same("right on", x.person(0, 8), hastens ? 0 : 4);
            Check.same("left on", x.person(0, 9), hastens ? 4 : 0);
            Check.same("rights that day", x.person(0, 12), hastens ? 0 : 1);
        }
    }

    /** Others are not HASTY; a HASTY LEFT counts as any; a row goes on over a DAY and a RIGHT ends it. */
    private static void hastyAndTheRest() {
        for (String kind : new String[] {"o", "e"}) {
            ThumbSea x = Check.sea(kind + "001;o000,o100");
            Check.same("limit", x.limit(1), 9);
            Check.same("right", x.show(0, 2), 1);
            Check.same("back", x.back(0, 2), 1);
            for (int left = 0; left < 2; left++) {
                Check.same("left by the limit", x.show(0, 2), 0);
                Check.same("back", x.back(0, 2), 0);
            }
            Check.same("day", x.day(), 1);
            Check.same("in a row", x.person(0, 11), 2);
            Check.same("looks all the same", x.show(0, 2), 1);
        }
        ThumbSea x = Check.sea("h001;o000,o100,o100,o000");
        Check.same("left", x.show(0, 1), 0);
        Check.same("right between", x.show(0, 2), 1);
        Check.same("left", x.show(0, 4), 0);
        Check.same("one in a row", x.show(0, 3), 1);
        ThumbSea y = Check.sea("h001;o000,o000,o100,o100");
        Check.same("left", y.show(0, 1), 0);
        Check.same("left", y.show(0, 2), 0);
        Check.same("day", y.day(), 1);
        Check.same("a row goes on over a day", y.show(0, 3), 0);
        Check.same("looks again", y.show(0, 4), 1);
        Check.same("lefts in all", y.count(7), 3);
    }

    /** "a SHY one LEFT, if that one did not go RIGHT on him before". */
    private static void shyBefore() {
        ThumbSea x = Check.sea("s001;o000,o100,o109,o100");
        Check.same("nobody went right yet", x.show(0, 2), 0);
        Check.same("went left on him", x.show(3, 0), 0);
        Check.same("so left", x.show(0, 3), 0);
        Check.same("right on him", x.show(1, 0), 1);
        Check.same("but he does not like that one", x.show(0, 1), 0);
        Check.same("right on him", x.show(4, 0), 1);
        Check.same("limit", x.limit(1), 9);
        Check.same("right", x.show(0, 4), 2);
        Check.same("right behind", x.show(2, 0), 1);
        Check.same("that changes nothing", x.person(0, 9), 14);
        Check.same("back", x.back(0, 2), 0);
        Check.same("above the limit, shy or not", x.show(0, 2), 0);
        Check.same("back", x.back(0, 2), 0);
        Check.same("day", x.day(), 1);
        Check.same("right then", x.show(0, 2), 2);
        ThumbSea met = Check.sea("s005;o410,o900");
        Check.same("right", met.show(1, 0), 1);
        Check.same("match", met.show(0, 1), 2);
        Check.same("not content", met.meet(0, 1), 0);
        Check.same("back", met.back(0, 1), 0);
        Check.same("that one has gone left since", met.show(0, 1), 0);
    }

    /** "A GONE one is SHOWN nobody, but SHOWN to others." */
    private static void goneAreShown() {
        ThumbSea x = Check.sea("g900;o009,e000,s000,g000");
        Check.same("right on one gone", x.show(1, 0), 1);
        Check.same("eager", x.show(2, 0), 1);
        Check.same("shy", x.show(3, 0), 0);
        for (int other = 1; other <= 4; other++) {
            int shown = other;
            Check.refused("gone is shown nobody", x, ThumbSea.STATE, y -> y.show(0, shown));
            Check.refused("gone has none to take back", x, ThumbSea.STATE, y -> y.back(0, shown));
            Check.refused("gone has no match", x, ThumbSea.STATE, y -> y.meet(shown, 0));
        }
        Check.refused("gone to gone", x, ThumbSea.STATE, y -> y.show(4, 0));
        Check.refused("gone is not taken", x, ThumbSea.STATE, y -> y.part(0));
    }

    /** 0 and 3 a couple, 1 and 3 a match, 0 and 4 one as well; 2 is gone; 1 went left on 5. */
    private static ThumbSea lived() {
        ThumbSea x = Check.sea("o900,o901,g900;o900,o900,o000");
        Check.same("right", x.show(0, 3), 1);
        Check.same("match", x.show(3, 0), 2);
        Check.same("right", x.show(1, 3), 1);
        Check.same("match", x.show(3, 1), 2);
        Check.same("right", x.show(4, 0), 1);
        Check.same("match", x.show(0, 4), 2);
        Check.same("left", x.show(1, 5), 0);
        Check.same("meet", x.meet(0, 3), 1);
        return x;
    }

    private interface Two {
        int on(ThumbSea x, int one, int other);
    }

    /** "UNKNOWN: one, other", ahead of STATE. */
    private static void unknownTwos(String name, Two call) {
        for (int wrong : NOBODY) {
            for (int other = 0; other < 6; other++) {
                int known = other;
                Check.refused(name + " one", lived(), ThumbSea.UNKNOWN, x -> call.on(x, wrong, known));
                Check.refused(name + " other", lived(), ThumbSea.UNKNOWN, x -> call.on(x, known, wrong));
            }
            Check.refused(name + " both", lived(), ThumbSea.UNKNOWN, x -> call.on(x, wrong, wrong));
        }
        Check.refused(name + " no sea", new ThumbSea(), ThumbSea.UNKNOWN, x -> call.on(x, 0, 0));
        Check.refused(name + " no sea", Check.page("o000;o000"), ThumbSea.UNKNOWN,
            x -> call.on(x, 0, 1));
    }

    /** Every two of the six of lived(): those in the text are refused with STATE, the others not. */
    private static void refusedTwos(String name, Two call, String taken) {
        for (int one = 0; one < 6; one++) {
            for (int other = 0; other < 6; other++) {
                int first = one;
                int second = other;
                String two = name + " " + one + other;
                if (!taken.contains(" " + one + other)) {
                    Check.refused(two, lived(), ThumbSea.STATE, x -> call.on(x, first, second));
                } else {
                    Check.same(two + " is taken", call.on(lived(), one, other) >= 0 ? 1 : 0, 1);
                }
            }
        }
    }

    /** "STATE: they are of one SIDE, one was SHOWN that one, one is GONE, either is TAKEN." */
    private static void promise11Show() {
        unknownTwos("show", (x, one, other) -> x.show(one, other));
        refusedTwos("show", (x, one, other) -> x.show(one, other), " 14 41 42 51 52");
        ThumbSea x = lived();
        Check.same("1 right", x.show(1, 4), 1);
        Check.same("2 right, and it is a match", x.show(4, 1), 2);
        Check.same("0 left", Check.sea("o001;o000").show(0, 1), 0);
        ThumbSea y = Check.sea("o009;o000");
        Check.same("left", y.show(0, 1), 0);
        Check.same("right on one who went left is no match", y.show(1, 0), 1);
        ThumbSea z = Check.sea("o000;o009");
        Check.same("right", z.show(0, 1), 1);
        Check.same("left on one who went right is no match", z.show(1, 0), 0);
        Check.same("no match", z.person(0, 10), 0);
        Check.same("no match", z.count(5), 0);
    }

    /** "1 if one had gone RIGHT, 0 LEFT. STATE: one was not SHOWN that one, or they are a COUPLE." */
    private static void promise12Back() {
        unknownTwos("back", (x, one, other) -> x.back(one, other));
        refusedTwos("back", (x, one, other) -> x.back(one, other), " 04 13 15 31 40");
        ThumbSea x = lived();
        Check.same("right", x.back(1, 3), 1);
        Check.same("left", x.back(1, 5), 0);
        Check.same("one taken takes back", x.back(0, 4), 1);
        Check.counts(x, "behind three", 3, 3, 3, 1, 1, 0, 6, 1, 9, 0, 3, 1, 0, 0, 1);
        Check.people(x, "the row stays", 11, 0, 1, 0, 0, 0, 0);
        Check.people(x, "that day stays", 12, 2, 1, 0, 2, 1, 0);
        Check.people(x, "right", 8, 8, 0, 0, 3, 1, 0);
        Check.people(x, "left", 9, 0, 0, 0, 0, 0, 0);
        Check.people(x, "match", 10, 8, 0, 0, 1, 0, 0);
        Check.refused("not shown any more", x, ThumbSea.STATE, y -> y.back(1, 3));
        Check.refused("no match any more", x, ThumbSea.STATE, y -> y.meet(4, 0));
        Check.same("the other one's right stays", x.back(3, 1), 1);
        Check.same("part", x.part(3), 0);
        Check.same("no couple any more, so left is taken back", x.back(0, 3), 0);
        Check.same("by both", x.back(3, 0), 0);
        Check.same("paid", x.count(10), 6);
        Check.same("shown again", x.show(3, 0), 1);
        Check.same("and again a match", x.show(0, 3), 2);
    }

    /** "how many are. STATE: no SEA; FULL: it would be the 100th." */
    private static void promise13Day() {
        Check.refused("no sea", new ThumbSea(), ThumbSea.STATE, x -> x.day());
        Check.refused("a page is none", Check.page("o000;o000"), ThumbSea.STATE, x -> x.day());
        ThumbSea x = lived();
        for (int day = 1; day <= 98; day++) {
            Check.same("day", x.day(), day);
        }
        Check.same("image", x.image(), 98);
        Check.same("the 99th", x.day(), 99);
        Check.same("right", x.show(1, 4), 1);
        Check.refused("the 100th", x, ThumbSea.FULL, y -> y.day());
        Check.refused("again", x, ThumbSea.FULL, y -> y.day());
        Check.same("that day goes on", x.person(1, 12), 1);
        Check.same("days", x.count(9), 99);
        Check.same("restore", x.restore(), 98);
        Check.same("the 99th once more", x.day(), 99);
        Check.refused("the 100th", x, ThumbSea.FULL, y -> y.day());
        Check.write(x, "o000;o000");
        Check.same("another sea", x.sea(), 2);
        Check.same("its first day", x.day(), 1);
    }

    /** "STATE: they are no MATCH, or either is TAKEN." */
    private static void promise14Meet() {
        unknownTwos("meet", (x, one, other) -> x.meet(one, other));
        refusedTwos("meet", (x, one, other) -> x.meet(one, other), "none");
        ThumbSea x = lived();
        Check.same("part", x.part(0), 3);
        Check.refused("who parted are no match", x, ThumbSea.STATE, y -> y.meet(0, 3));
        Check.same("a match of before", x.meet(3, 1), 1);
        Check.same("another one of before", x.meet(0, 4), 1);
        Check.same("couples", x.count(3), 2);
        Check.same("met", x.count(11), 3);
        Check.refused("both are taken", x, ThumbSea.STATE, y -> y.meet(1, 3));
    }

    /** "if the WORTH of each is as much as the other one is CHOOSY, or more (EAGER ..)". */
    private static void contentAtTheEdge() {
        for (String kind : new String[] {"o", "e", "h", "s"}) {
            for (int choosy = 0; choosy <= 9; choosy++) {
                for (int worth = 0; worth <= 9; worth++) {
                    boolean content = kind.equals("e") || worth >= choosy;
                    String other = "o" + worth + "30";
                    // a shy one of either side is shown behind the other one
                    meets(other + ";" + kind + "930", 0, 1, choosy, content);
                    meets(kind + "930;" + other, 1, 0, choosy, content);
                }
            }
        }
    }

    /** Both go right while nobody is choosy, then the second one is so, and they meet. */
    private static void meets(String text, int one, int choosyOne, int choosy, boolean content) {
        ThumbSea x = Check.sea(text);
        Check.same("right", x.show(one, choosyOne), 1);
        Check.same("match", x.show(choosyOne, one), 2);
        Check.same("choose", x.choose(choosyOne, choosy), 0);
        Check.same("meet " + text + " by " + choosy, x.meet(0, 1), content ? 1 : 0);
        Check.people(x, "how", 5, content ? 1 : 0, content ? 1 : 0);
        Check.people(x, "couple", 6, content ? 1 : -1, content ? 0 : -1);
    }

    /** "else each has gone LEFT on the other one (that counts for nothing else)". */
    private static void failedMeetingCountsForNothing() {
        ThumbSea x = Check.sea("h505,o500;o410,o410");
        Check.same("right", x.show(0, 3), 1);
        Check.same("right", x.show(0, 2), 1);
        Check.same("match", x.show(2, 0), 2);
        Check.same("meet", x.meet(0, 2), 0);
        Check.people(x, "right", 8, 8, 0, 0, 0);
        Check.people(x, "left", 9, 4, 0, 1, 0);
        Check.people(x, "row", 11, 0, 0, 0, 0);
        Check.people(x, "that day", 12, 2, 0, 1, 0);
        Check.counts(x, "behind it", 2, 2, 4, 0, 0, 0, 3, 0, 9, 0, 0, 1, 0, 0, 1);
        Check.refused("no match any more", x, ThumbSea.STATE, y -> y.meet(2, 0));
        Check.refused("was shown", x, ThumbSea.STATE, y -> y.show(0, 2));
        Check.refused("was shown", x, ThumbSea.STATE, y -> y.show(2, 0));
    }

    /** "from whom. UNKNOWN; STATE: he is not TAKEN." */
    private static void promise15Part() {
        for (int wrong : NOBODY) {
            Check.refused("part " + wrong, lived(), ThumbSea.UNKNOWN, x -> x.part(wrong));
        }
        Check.refused("no sea", new ThumbSea(), ThumbSea.UNKNOWN, x -> x.part(0));
        for (int person : new int[] {1, 2, 4, 5}) {
            Check.refused("part " + person, lived(), ThumbSea.STATE, x -> x.part(person));
        }
        Check.same("part 0", lived().part(0), 3);
        Check.same("part 3", lived().part(3), 0);
        ThumbSea x = lived();
        Check.same("part", x.part(3), 0);
        Check.refused("again", x, ThumbSea.STATE, y -> y.part(3));
        Check.refused("the other one", x, ThumbSea.STATE, y -> y.part(0));
        Check.refused("have gone left, so were shown", x, ThumbSea.STATE, y -> y.show(0, 3));
        Check.refused("have gone left, so were shown", x, ThumbSea.STATE, y -> y.show(3, 0));
        Check.same("shown to others again", x.show(5, 0), 1);
        // the least and the greatest number of a full sea
        ThumbSea full = Check.sea("o000,o000,o000,o000;o000,o000,o000,o000");
        Check.same("right", full.show(0, 7), 1);
        Check.same("match", full.show(7, 0), 2);
        Check.same("meet", full.meet(7, 0), 1);
        Check.same("right", full.show(3, 4), 1);
        Check.same("match", full.show(4, 3), 2);
        Check.same("meet", full.meet(4, 3), 1);
        Check.same("part from 7", full.part(0), 7);
        Check.same("part from 3", full.part(4), 3);
    }

    /** "both are not TAKEN then, and have gone LEFT on each other". */
    private static void partCountsForNothing() {
        ThumbSea x = lived();
        Check.same("part", x.part(0), 3);
        Check.people(x, "how", 5, 0, 0, 2, 0, 0, 0);
        Check.people(x, "couple", 6, -1, -1, -1, -1, -1, -1);
        Check.people(x, "right", 8, 16, 8, 0, 2, 1, 0);
        Check.people(x, "left", 9, 8, 32, 0, 1, 0, 0);
        Check.people(x, "match", 10, 16, 8, 0, 2, 1, 0);
        Check.people(x, "row", 11, 0, 1, 0, 0, 0, 0);
        Check.people(x, "that day", 12, 2, 1, 0, 2, 1, 0);
        Check.counts(x, "behind it", 3, 3, 5, 0, 1, 2, 6, 1, 9, 0, 0, 1, 0, 0, 1);
    }
}
