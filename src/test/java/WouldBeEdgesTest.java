/** The edges of what would be, and of promises 16 to 21, sentence by sentence. */
public final class WouldBeEdgesTest {
    private static final int LEAST = Integer.MIN_VALUE;
    private static final int GREATEST = Integer.MAX_VALUE;
    private static final String FULL_SEA = "o000,o000,o000,o000;o000,o000,o000,o000";

    public static void main(String[] args) {
        promise16Lasting();
        lastingAtTheEdge();
        promise17Mutual();
        promise18Comes();
        nextThree();
        limitOfEachDay();
        wereNobodyShown();
        promise19Best();
        promise20Waiting();
        promise21HowMany();
        Check.end();
    }

    /** "what = 0, 1, 10 to 13 (NONE: nobody, or there is none such). OUTSIDE; STATE: no SEA." */
    private static void promise16Lasting() {
        for (int what : new int[] {LEAST, -1, 2, 3, 8, 9, 14, 15, GREATEST}) {
            Check.refused("lasting " + what, Check.sea(FULL_SEA), ThumbSea.OUTSIDE,
                x -> x.lasting(what));
            Check.refused("outside ahead of state", new ThumbSea(), ThumbSea.OUTSIDE,
                x -> x.lasting(what));
        }
        for (int what : new int[] {0, 1, 10, 11, 12, 13}) {
            Check.refused("no sea", new ThumbSea(), ThumbSea.STATE, x -> x.lasting(what));
            Check.refused("a page is none", Check.page("o000;o000"), ThumbSea.STATE,
                x -> x.lasting(what));
        }
        ThumbSea x = Check.sea(FULL_SEA);
        long before = x.digest();
        lasts(x, "full", 4, 4, 5, 6, 7);
        Check.same("told, not changed", x.digest(), before);
        lasts(Check.sea("o000;o000"), "there are no second to fourth ones", 1, 1);
        lasts(Check.sea("o000,o000,o000,o000;o000"), "three have nobody", 1, 4);
        lasts(Check.sea("o000;o000,o000,o000,o000"), "three are had by nobody", 1, 1);
        lasts(Check.sea("g000;g000"), "all are gone", 0);
        lasts(Check.sea("o009,o009;o009,o009"), "nobody likes anybody", 0);
    }

    /** One row always; whom those of the first SIDE have, NONE behind those that are told. */
    private static void lasts(ThumbSea x, String why, int couples, int... mates) {
        Check.same(why + ": rows", x.lasting(0), 1);
        Check.same(why + ": couples", x.lasting(1), couples);
        for (int place = 0; place < 4; place++) {
            int mate = place < mates.length ? mates[place] : ThumbSea.NONE;
            Check.same(why + ": " + place, x.lasting(10 + place), mate);
        }
    }

    /** "whose PICTURE is greater, of like ones the lesser number"; FREE ones who LIKE each other. */
    private static void lastingAtTheEdge() {
        lasts(Check.sea("o100;o300,o120,o020"), "like pictures: the lesser number", 1, 1);
        lasts(Check.sea("o100;o200,o120,o020"), "a greater picture by one", 1, 2);
        lasts(Check.sea("o100,o010;o500"), "like pictures of the first side", 1, 2);
        lasts(Check.sea("o100,o020;o500"), "a greater one of the first side", 1, -1, 2);
        lasts(Check.sea("o505;o500"), "as much as choosy", 1, 1);
        lasts(Check.sea("o506;o500"), "one less than choosy", 0);
        lasts(Check.sea("o500;o506"), "one less than the other one is choosy", 0);
        lasts(Check.sea("e509;o005"), "eager", 1, 1);
        lasts(Check.sea("o900,g900;g900,o000"), "those gone are in none", 1, 3);
        ThumbSea x = Check.sea("o900,o000;o900,o000");
        Check.same("right", x.show(0, 2), 1);
        Check.same("match", x.show(2, 0), 2);
        lasts(x, "a match is not taken", 2, 2, 3);
        Check.same("meet", x.meet(0, 2), 1);
        lasts(x, "those taken are in none", 1, -1, 3);
        Check.same("paint", x.paint(3, 3), 0);
        Check.same("choose", x.choose(1, 3), 0);
        lasts(x, "by the picture as it is now", 1, -1, 3);
        Check.same("choose", x.choose(1, 4), 3);
        lasts(x, "nobody is left", 0);
    }

    /** "How many twos of FREE ones of both SIDES LIKE each other. STATE: no SEA." */
    private static void promise17Mutual() {
        Check.refused("no sea", new ThumbSea(), ThumbSea.STATE, x -> x.mutual());
        Check.refused("a page is none", Check.page("o000;o000"), ThumbSea.STATE, x -> x.mutual());
        Check.same("most", Check.sea(FULL_SEA).mutual(), 16);
        Check.same("least", Check.sea("o000;o001").mutual(), 0);
        Check.same("as much", Check.sea("o010;o001").mutual(), 1);
        Check.same("gone", Check.sea("g000;o000").mutual(), 0);
        Check.same("gone", Check.sea("o000;g000").mutual(), 0);
        ThumbSea x = Check.sea("o000,o000;o000,o000");
        Check.same("all", x.mutual(), 4);
        Check.same("right", x.show(0, 2), 1);
        Check.same("match", x.show(2, 0), 2);
        Check.same("a match is free", x.mutual(), 4);
        Check.same("meet", x.meet(0, 2), 1);
        Check.same("taken", x.mutual(), 1);
        Check.same("part", x.part(0), 2);
        Check.same("free, though they went left", x.mutual(), 4);
        Check.same("told, not changed", x.person(0, 9), 4);
    }

    /** "OUTSIDE: days (1 to 8), limit (1 to 9), order (0, 1); STATE: no SEA." */
    private static void promise18Comes() {
        int[][] outside = {{LEAST, 1, 0}, {-1, 1, 0}, {0, 1, 0}, {9, 1, 0}, {GREATEST, 1, 0},
            {1, LEAST, 0}, {1, -1, 0}, {1, 0, 0}, {1, 10, 0}, {1, GREATEST, 0},
            {1, 1, LEAST}, {1, 1, -1}, {1, 1, 2}, {1, 1, GREATEST},
            {8, 10, 1}, {9, 9, 1}, {8, 9, 2}, {0, 0, -1}, {9, 10, 2}};
        for (int[] row : outside) {
            Check.refused("comes", Check.sea(FULL_SEA), ThumbSea.OUTSIDE,
                x -> x.comes(row[0], row[1], row[2]));
            Check.refused("outside ahead of state", new ThumbSea(), ThumbSea.OUTSIDE,
                x -> x.comes(row[0], row[1], row[2]));
        }
        for (int days = 1; days <= 8; days++) {
            for (int limit = 1; limit <= 9; limit++) {
                for (int order = 0; order <= 1; order++) {
                    int[] row = {days, limit, order};
                    Check.refused("no sea", new ThumbSea(), ThumbSea.STATE,
                        x -> x.comes(row[0], row[1], row[2]));
                    // three on the first day, one on the second, as far as the limit goes
                    int each = Math.min(limit, 3) + (days > 1 ? 1 : 0);
                    ThumbSea x = Check.sea(FULL_SEA);
                    long before = x.digest();
                    Check.same("comes", x.comes(days, limit, order), each * each);
                    Check.same("told, not changed", x.digest(), before);
                }
            }
        }
    }

    /** "the next three (as many as are left)", of those who are not TAKEN, GONE ones, too. */
    private static void nextThree() {
        String[] others = {"o000", "o000,o000", "o000,o000,o000", "o000,o000,o000,o000"};
        for (int many = 1; many <= 4; many++) {
            ThumbSea x = Check.sea("o000;" + others[many - 1]);
            Check.same("one day", x.comes(1, 9, 0), Math.min(many, 3));
            Check.same("two days", x.comes(2, 9, 0), many);
            Check.same("by picture", x.comes(1, 9, 1), Math.min(many, 3));
            ThumbSea y = Check.sea(others[many - 1] + ";o000");
            Check.same("the other way round", y.comes(1, 9, 0), Math.min(many, 3));
        }
        ThumbSea gone = Check.sea("o000;g000,g000,o000,o000");
        Check.same("two gone ones are shown", gone.comes(1, 9, 0), 1);
        Check.same("the fourth one next day", gone.comes(2, 9, 0), 2);
        Check.same("a gone one is shown nobody", Check.sea("g000;o000").comes(8, 9, 0), 0);
        ThumbSea taken = Check.sea("o000,o000;o000,o000,o000,o000");
        Check.same("three of four for each of both", taken.comes(1, 9, 0), 6);
        Check.same("right", taken.show(1, 2), 1);
        Check.same("match", taken.show(2, 1), 2);
        Check.same("meet", taken.meet(1, 2), 1);
        Check.same("one taken takes no place", taken.comes(1, 9, 0), 3);
        // the greatest first, of like ones by number: so the last one of 1 waits for the next day
        Check.same("like pictures", Check.sea("o001;o100,o010,o109,o209").comes(1, 9, 1), 2);
        Check.same("like pictures", Check.sea("o001;o109,o010,o100,o209").comes(1, 9, 1), 1);
        Check.same("next day", Check.sea("o001;o109,o010,o100,o209").comes(2, 9, 1), 2);
        Check.same("by number", Check.sea("o001;o100,o010,o100,o209").comes(1, 9, 0), 3);
    }

    /** Each DAY has its own LIMIT, and a row of LEFTS goes on over the DAYS. */
    private static void limitOfEachDay() {
        ThumbSea x = Check.sea("o000;o000,o000,o000,o000");
        Check.same("one a day", x.comes(1, 1, 0), 1);
        Check.same("two days", x.comes(2, 1, 0), 2);
        Check.same("all are shown then", x.comes(8, 1, 0), 2);
        Check.same("limit 3", x.comes(2, 3, 0), 4);
        ThumbSea hasty = Check.sea("h001;o100,o000,o000,o100");
        Check.same("behind two lefts, on the second day", hasty.comes(2, 9, 0), 1);
        ThumbSea once = Check.sea("h001;o100,o100,o000,o100");
        Check.same("behind one left", once.comes(2, 9, 0), 3);
        ThumbSea shy = Check.sea("s000;o000,o000,o000,o000");
        Check.same("shy ones come ahead", shy.comes(1, 9, 0), 0);
        Check.same("but for the fourth one, on whom they go right before", shy.comes(2, 9, 0), 1);
    }

    /** "were nobody SHOWN yet, and no LEFTS in a row", with that LIMIT alone. */
    private static void wereNobodyShown() {
        ThumbSea x = Check.sea("h001,o000;o000,o100,o100,o100");
        int due = x.comes(1, 9, 0);
        Check.same("left", x.show(0, 2), 0);
        Check.same("back", x.back(0, 2), 0);
        Check.same("left", x.show(0, 2), 0);
        Check.same("two lefts in a row", x.person(0, 11), 2);
        Check.same("limit", x.limit(1), 9);
        Check.same("right", x.show(1, 5), 1);
        Check.same("match", x.show(5, 1), 2);
        Check.same("left by the limit", x.show(1, 4), 0);
        long before = x.digest();
        Check.same("as if nothing was", x.comes(1, 9, 0), due);
        Check.same("all stays", x.digest(), before);

        ThumbSea hasty = Check.sea("h001;o000,o100");
        for (int left = 0; left < 2; left++) {
            Check.same("left", hasty.show(0, 1), 0);
            Check.same("back", hasty.back(0, 1), 0);
        }
        Check.same("by picture the liked one is first", hasty.comes(1, 1, 1), 1);
        Check.same("two lefts in a row", hasty.person(0, 11), 2);

        ThumbSea match = Check.sea("o000;o000");
        Check.same("right", match.show(0, 1), 1);
        Check.same("match", match.show(1, 0), 2);
        Check.same("choose", match.choose(0, 1), 0);
        Check.same("a match that would not be", match.comes(8, 9, 0), 0);
        Check.same("back", match.back(0, 1), 1);
        Check.same("left", match.show(0, 1), 0);
        Check.same("choose", match.choose(0, 0), 1);
        Check.same("one that would be", match.comes(1, 1, 0), 1);
    }

    /** "by which LIMIT most: the least. OUTSIDE: days (1 to 8), order (0, 1); STATE: no SEA." */
    private static void promise19Best() {
        int[][] outside = {{LEAST, 0}, {-1, 0}, {0, 0}, {9, 0}, {GREATEST, 0}, {1, LEAST}, {1, -1},
            {1, 2}, {1, GREATEST}, {8, 2}, {9, 1}, {0, -1}, {9, 2}};
        for (int[] row : outside) {
            Check.refused("best", Check.sea(FULL_SEA), ThumbSea.OUTSIDE, x -> x.best(row[0], row[1]));
            Check.refused("outside ahead of state", new ThumbSea(), ThumbSea.OUTSIDE,
                x -> x.best(row[0], row[1]));
        }
        for (int days = 1; days <= 8; days++) {
            for (int order = 0; order <= 1; order++) {
                int[] row = {days, order};
                Check.refused("no sea", new ThumbSea(), ThumbSea.STATE, x -> x.best(row[0], row[1]));
                ThumbSea x = Check.sea(FULL_SEA);
                long before = x.digest();
                Check.same("three a day", x.best(days, order), 3);
                Check.same("told, not changed", x.digest(), before);
                Check.same("nothing comes", Check.sea("g000;g000").best(days, order), 1);
                Check.same("one comes", Check.sea("o000;o000").best(days, order), 1);
                Check.same("two come", Check.sea("o000;o000,o000").best(days, order), 2);
            }
        }
        ThumbSea x = Check.sea(FULL_SEA);
        Check.same("limit", x.limit(1), 9);
        Check.same("the limit that is does not matter", x.best(1, 0), 3);
        Check.same("and stays", x.count(8), 1);
    }

    /** "OUTSIDE: others (2 to 8), by (0 to one less than others), what." */
    private static void promise20Waiting() {
        for (int others = 2; others <= 8; others++) {
            int many = others;
            for (int by : new int[] {LEAST, -1, others, others + 1, GREATEST}) {
                Check.refused("by " + by, new ThumbSea(), ThumbSea.OUTSIDE, x -> x.waiting(many, by, 0));
            }
            for (int what : new int[] {LEAST, -1, 2, GREATEST}) {
                Check.refused("what", new ThumbSea(), ThumbSea.OUTSIDE, x -> x.waiting(many, 0, what));
                Check.refused("what", Check.sea(FULL_SEA), ThumbSea.OUTSIDE,
                    x -> x.waiting(many, many - 1, what));
            }
            ThumbSea x = new ThumbSea();
            Check.same("the first one, above", x.waiting(others, 0, 0), 1);
            Check.same("the first one, below", x.waiting(others, 0, 1), others);
            Check.same("the last one, above", x.waiting(others, others - 1, 0), 1);
            Check.same("the last one, below", x.waiting(others, others - 1, 1), others);
        }
        for (int others : new int[] {LEAST, -1, 0, 1, 9, 10, GREATEST}) {
            for (int by : new int[] {-1, 0, 1}) {
                Check.refused("others", new ThumbSea(), ThumbSea.OUTSIDE, x -> x.waiting(others, by, 0));
            }
        }
        // of four, one let go by: 1/4 (1 + 1/2 + 1/3); of eight, three: 3/8 (1/3 + .. + 1/7)
        int[][] due = {{3, 1, 1, 2}, {4, 1, 11, 24}, {4, 2, 5, 12}, {5, 2, 13, 30}, {8, 3, 459, 1120}};
        for (int[] row : due) {
            Check.same("above", Check.sea(FULL_SEA).waiting(row[0], row[1], 0), row[2]);
            Check.same("below", Check.sea(FULL_SEA).waiting(row[0], row[1], 1), row[3]);
        }
    }

    /** "of like ones the fewest. OUTSIDE: others (2 to 8)." */
    private static void promise21HowMany() {
        for (int others : new int[] {LEAST, -1, 0, 1, 9, 10, GREATEST}) {
            Check.refused("others", new ThumbSea(), ThumbSea.OUTSIDE, x -> x.howMany(others));
            Check.refused("others", Check.sea(FULL_SEA), ThumbSea.OUTSIDE, x -> x.howMany(others));
        }
        ThumbSea x = new ThumbSea();
        Check.same("of two 0 and 1 are alike", x.waiting(2, 0, 1), x.waiting(2, 1, 1));
        Check.same("so the fewest", x.howMany(2), 0);
        int[] due = {0, 1, 1, 2, 2, 2, 3};
        for (int others = 2; others <= 8; others++) {
            Check.same("how many of " + others, x.howMany(others), due[others - 2]);
        }
    }
}
