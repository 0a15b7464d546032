import java.util.ArrayList;
import java.util.List;

/** Promises 16 to 21: lasting, mutual, comes, best, waiting, howMany. */
public final class WouldBeTest {
    public static void main(String[] args) {
        lastingRows();
        mutualTwos();
        comings();
        bestLimits();
        reckonedAnew();
        waitingTold();
        waitingReckoned();
        Check.end();
    }

    private static void lasts(ThumbSea x, String why, int rows, int couples, int... mates) {
        Check.same(why + ": rows", x.lasting(0), rows);
        Check.same(why + ": couples", x.lasting(1), couples);
        for (int i = 0; i < 4; i++) {
            Check.same(why + ": of " + i, x.lasting(10 + i), i < mates.length ? mates[i] : -1);
        }
    }

    private static void lastingRows() {
        ThumbSea none = new ThumbSea();
        Check.same("no sea", none.lasting(0), ThumbSea.STATE);
        Check.same("no sea", none.lasting(13), ThumbSea.STATE);
        int[] outside = {-1, 2, 9, 14, Integer.MIN_VALUE, Integer.MAX_VALUE};
        for (int what : outside) {
            Check.same("outside ahead of state", none.lasting(what), ThumbSea.OUTSIDE);
            Check.same("outside", Check.sea("o000;o000").lasting(what), ThumbSea.OUTSIDE);
        }
        lasts(Check.sea("o000;o000"), "one and one", 1, 1, 1);
        lasts(Check.sea("o001;o000"), "one does not like", 1, 0, -1);
        lasts(Check.sea("o000;o001"), "the other one does not", 1, 0, -1);
        lasts(Check.sea("g900;o900"), "gone", 1, 0, -1);
        lasts(Check.sea("o100,o200;o300,o400"), "the greatest of both", 1, 2, 2, 3);
        lasts(Check.sea("o200,o200;o300,o300"), "of like ones the lesser number", 1, 2, 2, 3);
        lasts(Check.sea("o130,o200;o300,o220"), "by the picture, not by worth", 1, 2, 3, 2);
        lasts(Check.sea("o100,o200,o300;o900"), "only one is had", 1, 1, -1, -1, 3);
        lasts(Check.sea("o900;o100,o200,o300,o400"), "only one has", 1, 1, 4);
        lasts(Check.sea("o900,e100;o909,o502"), "who is liked by none", 1, 1, 2, -1);

        ThumbSea x = Check.sea("o900,o800;o900,o800");
        Check.same("right", x.show(0, 3), 1);
        Check.same("match", x.show(3, 0), 2);
        Check.same("meet", x.meet(0, 3), 1);
        lasts(x, "without those who are taken", 1, 1, -1, 2);
        Check.same("part", x.part(0), 3);
        lasts(x, "who parted count, though they went left", 1, 2, 2, 3);
    }

    private static void mutualTwos() {
        Check.same("no sea", new ThumbSea().mutual(), ThumbSea.STATE);
        Check.same("all", Check.sea("o000,o000,o000;o000,o000").mutual(), 6);
        Check.same("gone ones not", Check.sea("o000,g000,o000;o000,g000").mutual(), 2);
        Check.same("one way", Check.sea("o500;o006").mutual(), 0);
        Check.same("as much", Check.sea("o500;o005").mutual(), 1);
        Check.same("eager", Check.sea("e009;o000").mutual(), 1);
        Check.same("by the picture", Check.sea("o230;o005").mutual(), 1);
        ThumbSea x = Check.sea("o900,o800;o900,o800");
        Check.same("right", x.show(0, 3), 1);
        Check.same("match", x.show(3, 0), 2);
        Check.same("meet", x.meet(0, 3), 1);
        Check.same("taken ones not", x.mutual(), 1);
    }

    private static void comings() {
        ThumbSea none = new ThumbSea();
        Check.same("no sea", none.comes(1, 1, 0), ThumbSea.STATE);
        int[][] outside = {{0, 1, 0}, {9, 1, 0}, {1, 0, 0}, {1, 10, 0}, {1, 1, -1}, {1, 1, 2},
            {Integer.MIN_VALUE, 1, 0}, {1, Integer.MAX_VALUE, 0}, {1, 1, Integer.MAX_VALUE}};
        for (int[] row : outside) {
            Check.same("outside", none.comes(row[0], row[1], row[2]), ThumbSea.OUTSIDE);
            Check.same("outside", Check.sea("o000;o000").comes(row[0], row[1], row[2]),
                ThumbSea.OUTSIDE);
        }
        String four = "o000,o000,o000,o000;o000,o000,o000,o000";
        Check.same("three a day", Check.sea(four).comes(1, 9, 0), 9);
        Check.same("the fourth on the second day", Check.sea(four).comes(2, 9, 0), 16);
        Check.same("more days", Check.sea(four).comes(8, 9, 1), 16);
        Check.same("limit 2", Check.sea(four).comes(1, 2, 0), 4);
        // on the first day the first two of each are right, on the second one the fourth
        Check.same("limit 2, two days", Check.sea(four).comes(2, 2, 0), 9);
        // by number the last one, whom both would match, is shown on the second day
        String order = "o900,o000;o009,o009,o009,o900";
        Check.same("by number", Check.sea(order).comes(1, 9, 0), 3);
        Check.same("by picture", Check.sea(order).comes(1, 9, 1), 4);
        Check.same("by number, two days", Check.sea(order).comes(2, 9, 0), 5);
        Check.same("a shy one of the first side is shown too early",
            Check.sea("s000;o000").comes(8, 9, 0), 0);
        Check.same("a shy one of the second side", Check.sea("o000;s000").comes(1, 9, 0), 1);
        Check.same("gone ones take a place", Check.sea("o000;g000,g000,g000,o000").comes(1, 9, 0), 0);
        Check.same("gone ones, next day", Check.sea("o000;g000,g000,g000,o000").comes(2, 9, 0), 1);
        Check.same("a hasty one", Check.sea("h005;o000,o000,o900").comes(1, 9, 0), 0);
        Check.same("a hasty one, by picture", Check.sea("h005;o000,o000,o900").comes(1, 9, 1), 1);

        ThumbSea x = Check.sea("o900,o800;o900,o800");
        Check.same("limit", x.limit(1), 9);
        Check.same("right", x.show(0, 3), 1);
        Check.same("left by the limit", x.show(0, 2), 0);
        Check.same("match", x.show(3, 0), 2);
        Check.same("as if nobody was shown, with another limit", x.comes(1, 9, 0), 4);
        Check.same("nothing is changed", x.person(0, 8), 8);
        Check.same("nothing is changed", x.count(8), 1);
        Check.same("meet", x.meet(0, 3), 1);
        Check.same("without a couple", x.comes(1, 9, 0), 1);
    }

    private static void bestLimits() {
        ThumbSea none = new ThumbSea();
        Check.same("no sea", none.best(1, 0), ThumbSea.STATE);
        int[][] outside = {{0, 0}, {9, 0}, {1, -1}, {1, 2}, {Integer.MAX_VALUE, 0}};
        for (int[] row : outside) {
            Check.same("outside", none.best(row[0], row[1]), ThumbSea.OUTSIDE);
            Check.same("outside", Check.sea("o000;o000").best(row[0], row[1]), ThumbSea.OUTSIDE);
        }
        Check.same("nothing comes: the least", Check.sea("o009;o009").best(8, 1), 1);
        Check.same("one", Check.sea("o000;o000").best(1, 0), 1);
        Check.same("two", Check.sea("o000,o000;o000,o000").best(1, 0), 2);
        Check.same("three", Check.sea("o000,o000,o000;o000,o000,o000").best(1, 1), 3);
    }

    /** Random seas: each answer is reckoned from what person() tells, in another way. */
    private static void reckonedAnew() {
        RandomSeas seas = new RandomSeas(11);
        for (int time = 0; time < 400; time++) {
            ThumbSea x = seas.livedIn();
            Plain plain = new Plain(x);
            String why = "sea " + time;
            plain.checkLasting(x, why);
            Check.same(why + " mutual", x.mutual(), plain.mutual());
            for (int order = 0; order <= 1; order++) {
                int days = 1 + seas.below(8);
                int best = 1;
                for (int limit = 1; limit <= 9; limit++) {
                    int comes = plain.comes(days, limit, order);
                    Check.same(why + " comes", x.comes(days, limit, order), comes);
                    best = comes > plain.comes(days, best, order) ? limit : best;
                }
                Check.same(why + " best", x.best(days, order), best);
            }
        }
    }

    private static void waitingTold() {
        ThumbSea x = new ThumbSea();
        int[][] outside = {{1, 0, 0}, {9, 0, 0}, {2, -1, 0}, {2, 2, 0}, {8, 8, 0}, {4, 1, -1},
            {4, 1, 2}, {Integer.MIN_VALUE, 0, 0}, {8, Integer.MAX_VALUE, 0}, {8, 1, Integer.MAX_VALUE}};
        for (int[] row : outside) {
            Check.same("outside", x.waiting(row[0], row[1], row[2]), ThumbSea.OUTSIDE);
        }
        for (int others : new int[] {1, 9, 0, -1, Integer.MAX_VALUE}) {
            Check.same("outside", x.howMany(others), ThumbSea.OUTSIDE);
        }
        int[] due = {0, 1, 1, 2, 2, 2, 3};
        for (int others = 2; others <= 8; others++) {
            Check.same("how many of " + others, x.howMany(others), due[others - 2]);
        }
        Check.same("with a sea", Check.sea("o000;o000").howMany(2), 0);
    }

    /** Every order in which the others can come. */
    private static void waitingReckoned() {
        ThumbSea x = new ThumbSea();
        for (int others = 2; others <= 8; others++) {
            int all = 1;
            for (int i = 2; i <= others; i++) {
                all *= i;
            }
            int[] taken = new int[others];
            countBest(new int[others], 0, taken);
            int likeliest = 0;
            for (int by = 0; by < others; by++) {
                int divisor = divisor(taken[by], all);
                Check.same("above " + others + " " + by, x.waiting(others, by, 0), taken[by] / divisor);
                Check.same("below " + others + " " + by, x.waiting(others, by, 1), all / divisor);
                likeliest = taken[by] > taken[likeliest] ? by : likeliest;
            }
            Check.same("how many of " + others, x.howMany(others), likeliest);
        }
    }

    private static void countBest(int[] row, int filled, int[] taken) {
        if (filled == row.length) {
            for (int by = 0; by < row.length; by++) {
                taken[by] += takes(row, by) == row.length ? 1 : 0;
            }
            return;
        }
        for (int value = 1; value <= row.length; value++) {
            boolean used = false;
            for (int i = 0; i < filled; i++) {
                used |= row[i] == value;
            }
            if (!used) {
                row[filled] = value;
                countBest(row, filled + 1, taken);
            }
        }
    }

    private static int takes(int[] row, int by) {
        int ahead = 0;
        for (int i = 0; i < row.length; i++) {
            if (i >= by && row[i] > ahead) {
                return row[i];
            }
            ahead = Math.max(ahead, row[i]);
        }
        return row[row.length - 1];
    }

    private static int divisor(int a, int b) {
        return b == 0 ? a : divisor(b, a % b);
    }

    /** The people as person() tells them, and the same questions answered plainly. */
    private static final class Plain {
        final int people;
        final int first;
        final int[] kind;
        final int[] picture;
        final int[] choosy;
        final int[] how;

        Plain(ThumbSea x) {
            first = x.count(0);
            people = first + x.count(1);
            kind = new int[people];
            picture = new int[people];
            choosy = new int[people];
            how = new int[people];
            for (int p = 0; p < people; p++) {
                kind[p] = x.person(p, 0);
                picture[p] = x.person(p, 1) + x.person(p, 2);
                choosy[p] = x.person(p, 3);
                how[p] = x.person(p, 5);
            }
        }

        boolean fit(int one, int other) {
            return how[one] == 0 && how[other] == 0 && likes(one, other) && likes(other, one);
        }

        boolean likes(int one, int other) {
            return kind[one] == 1 || picture[other] >= choosy[one];
        }

        /** Greater is preferred; nobody is the least. */
        int value(int one) {
            return one < 0 ? -1 : picture[one] * 8 + 7 - one;
        }

        int mutual() {
            int twos = 0;
            for (int one = 0; one < first; one++) {
                for (int other = first; other < people; other++) {
                    twos += fit(one, other) ? 1 : 0;
                }
            }
            return twos;
        }

        void checkLasting(ThumbSea x, String why) {
            List<int[]> rows = new ArrayList<>();
            int seconds = people - first;
            int codes = 1;
            for (int i = 0; i < first; i++) {
                codes *= seconds + 1;
            }
            for (int code = 0; code < codes; code++) {
                int[] mates = new int[people];
                java.util.Arrays.fill(mates, -1);
                if (laid(mates, code, seconds) && lasts(mates)) {
                    rows.add(mates);
                }
            }
            Check.same(why + " rows", x.lasting(0), rows.size());
            int couples = 0;
            for (int one = 0; one < 4; one++) {
                int had = -1;
                for (int[] row : rows) {
                    had = one < first && value(row[one]) > value(had) ? row[one] : had;
                }
                couples += had >= 0 ? 1 : 0;
                Check.same(why + " of " + one, x.lasting(10 + one), had);
            }
            Check.same(why + " couples", x.lasting(1), couples);
        }

        private boolean laid(int[] mates, int code, int seconds) {
            for (int one = 0, rest = code; one < first; one++, rest /= seconds + 1) {
                int other = first + rest % (seconds + 1) - 1;
                if (other < first) {
                    continue;
                }
                if (!fit(one, other) || mates[other] >= 0) {
                    return false;
                }
                mates[one] = other;
                mates[other] = one;
            }
            return true;
        }

        private boolean lasts(int[] mates) {
            for (int one = 0; one < first; one++) {
                for (int other = first; other < people; other++) {
                    if (fit(one, other) && value(other) > value(mates[one])
                            && value(one) > value(mates[other])) {
                        return false;
                    }
                }
            }
            return true;
        }

        int comes(int days, int limit, int order) {
            boolean[][] shown = new boolean[people][people];
            boolean[][] right = new boolean[people][people];
            int[] row = new int[people];
            for (int day = 0; day < days; day++) {
                for (int one = 0; one < people; one++) {
                    int rights = 0;
                    for (int other : nextThree(one, shown[one], order)) {
                        shown[one][other] = true;
                        boolean goes = likes(one, other) && rights < limit
                            && !(kind[one] == 2 && row[one] % 3 == 2)
                            && !(kind[one] == 3 && !right[other][one]);
                        right[one][other] = goes;
                        rights += goes ? 1 : 0;
                        row[one] = goes ? 0 : row[one] + 1;
                    }
                }
            }
            int matches = 0;
            for (int one = 0; one < first; one++) {
                for (int other = first; other < people; other++) {
                    matches += right[one][other] && right[other][one] ? 1 : 0;
                }
            }
            return matches;
        }

        private List<Integer> nextThree(int one, boolean[] shown, int order) {
            List<Integer> next = new ArrayList<>();
            for (int other = 0; other < people && how[one] == 0; other++) {
                if (other < first != one < first && how[other] != 1 && !shown[other]) {
                    next.add(other);
                }
            }
            if (order == 1) {
                next.sort((a, b) -> value(b) - value(a));
            }
            return next.subList(0, Math.min(3, next.size()));
        }
    }
}
