/** Promises 22 to 24: see, forget, seasons. */
public final class SeenTest {
    public static void main(String[] args) {
        seeing();
        refusedSights();
        choosies();
        asking();
        reckonedAnew();
        seasonsTold();
        seasonsReckoned();
        Check.end();
    }

    private static void seeing() {
        ThumbSea x = Check.sea("o505,e500;o305,s400");
        for (int n = 1; n <= 8; n++) {
            Check.same("see", x.see(n % 2, 2, true), n);
        }
        Check.same("full", x.see(3, 0, true), ThumbSea.FULL);
        Check.same("full", x.see(0, 2, true), ThumbSea.FULL);
        Check.same("seen", x.count(12), 8);
        Check.same("unknown ahead of full", x.see(4, 0, true), ThumbSea.UNKNOWN);
        Check.same("state ahead of full", x.see(0, 1, true), ThumbSea.STATE);
        Check.same("forget", x.forget(), 8);
        Check.same("forget again", x.forget(), 0);
        Check.same("seen", x.count(12), 0);
        Check.people(x, "nothing is seen", 13, 1023, 1023, 1023, 1023);
        Check.same("see", x.see(0, 2, false), 1);
        Check.same("he is not changed", x.person(0, 3), 5);
        Check.same("he was not shown", x.person(0, 9), 0);
    }

    private static void refusedSights() {
        ThumbSea none = new ThumbSea();
        Check.same("no sea", none.see(0, 1, true), ThumbSea.UNKNOWN);
        Check.same("no sea", none.forget(), 0);
        ThumbSea x = Check.sea("o505,e500;o305,s400");
        for (int wrong : new int[] {-1, 4, Integer.MIN_VALUE, Integer.MAX_VALUE}) {
            Check.same("one", x.see(wrong, 0, true), ThumbSea.UNKNOWN);
            Check.same("other", x.see(0, wrong, false), ThumbSea.UNKNOWN);
        }
        Check.same("himself", x.see(0, 0, true), ThumbSea.STATE);
        Check.same("one side", x.see(2, 3, true), ThumbSea.STATE);
        Check.same("nothing is seen", x.count(12), 0);
    }

    private static void choosies() {
        // pictures: 5, 5; 3, 9
        ThumbSea x = Check.sea("o505,e500;o305,g900");
        Check.same("see", x.see(0, 2, false), 1);
        Check.same("more than 3", x.person(0, 13), 1023 - 15);
        Check.same("see", x.see(0, 3, true), 2);
        Check.same("9 at most is nothing new", x.person(0, 13), 1023 - 15);
        Check.same("the others as they were", x.person(2, 13), 1023);
        Check.same("paint", x.paint(2, 2), 0);
        Check.same("as the picture is now", x.person(0, 13), 1023 - 63);
        Check.same("see", x.see(2, 0, true), 3);
        Check.same("5 at most", x.person(2, 13), 63);
        Check.same("see", x.see(2, 1, false), 4);
        Check.same("that can't be", x.person(2, 13), 0);
        Check.same("so nobody is asked", x.person(2, 14), ThumbSea.NONE);
        Check.same("see", x.see(1, 2, true), 5);
        Check.same("an eager one likes all", x.person(1, 13), 1023);
        Check.same("see", x.see(1, 2, false), 6);
        Check.same("an eager one likes all", x.person(1, 13), 0);
        Check.same("forget", x.forget(), 6);
        Check.same("all", x.person(2, 13), 1023);

        ThumbSea y = Check.sea("o000;o930,o000");
        Check.same("see", y.see(0, 1, false), 1);
        Check.same("none is so choosy", y.person(0, 13), 0);
        Check.same("forget", y.forget(), 1);
        Check.same("see", y.see(0, 2, true), 1);
        Check.same("0 alone", y.person(0, 13), 1);
        Check.same("asked all the same", y.person(0, 14), 1);
    }

    private static void asking() {
        // a picture of 4 leaves five at worst, 2 and 6 leave seven
        ThumbSea x = Check.sea("o000;o200,o600,g400,o310");
        Check.same("halves", x.person(0, 14), 3);
        Check.same("see", x.see(0, 3, true), 1);
        // 0 to 4: 2 leaves three, the others all five
        Check.same("next", x.person(0, 14), 1);
        Check.same("see", x.see(0, 1, false), 2);
        // 3, 4: none of them tells any more
        Check.same("of like ones the least", x.person(0, 14), 1);
        Check.same("of the other side", x.person(1, 14), 0);
        ThumbSea y = Check.sea("e000;o200,o400");
        Check.same("an eager one: all alike", y.person(0, 14), 1);
    }

    private static void reckonedAnew() {
        RandomSeas seas = new RandomSeas(23);
        for (int time = 0; time < 300; time++) {
            ThumbSea x = seas.livedIn();
            int people = x.count(0) + x.count(1);
            int[][] seen = new int[8][];
            int size = 0;
            for (int step = seas.below(14); step > 0 && size < 8; step--) {
                int one = seas.below(people);
                int other = seas.below(people);
                boolean likes = seas.below(2) == 0;
                if (x.see(one, other, likes) > 0) {
                    seen[size++] = new int[] {one, other, likes ? 1 : 0};
                }
            }
            x.paint(seas.below(people), seas.below(4));
            Check.same("seen", x.count(12), size);
            for (int one = 0; one < people; one++) {
                int bits = choosiesOf(x, one, seen, size);
                Check.same("choosies " + time, x.person(one, 13), bits);
                Check.same("ask " + time, x.person(one, 14), askOf(x, one, seen, size, bits));
            }
        }
    }

    private static int choosiesOf(ThumbSea x, int one, int[][] seen, int size) {
        int bits = 0;
        for (int choosy = 0; choosy < 10; choosy++) {
            boolean so = true;
            for (int i = 0; i < size; i++) {
                int picture = x.person(seen[i][1], 1) + x.person(seen[i][1], 2);
                boolean likes = x.person(one, 0) == 1 || picture >= choosy;
                so &= seen[i][0] != one || likes == (seen[i][2] == 1);
            }
            bits |= so ? 1 << choosy : 0;
        }
        return bits;
    }

    private static int askOf(ThumbSea x, int one, int[][] seen, int size, int bits) {
        int ask = -1;
        int fewest = 99;
        int[][] more = java.util.Arrays.copyOf(seen, size + 1);
        for (int other = 0; bits != 0 && other < x.count(0) + x.count(1); other++) {
            if (x.person(other, 4) == x.person(one, 4)) {
                continue;
            }
            int worst = 0;
            for (int likes = 0; likes <= 1; likes++) {
                more[size] = new int[] {one, other, likes};
                worst = Math.max(worst, Integer.bitCount(choosiesOf(x, one, more, size + 1)));
            }
            if (worst < fewest) {
                fewest = worst;
                ask = other;
            }
        }
        return ask;
    }

    private static void seasonsTold() {
        ThumbSea none = new ThumbSea();
        Check.same("no sea", none.seasons(1, 0, 0), ThumbSea.STATE);
        int[][] outside = {{0, 0, 0}, {61, 0, 0}, {1, -1, 0}, {1, 0, -1}, {1, 0, 3},
            {Integer.MIN_VALUE, 0, 0}, {1, Integer.MIN_VALUE, 0}, {1, 0, Integer.MAX_VALUE}};
        for (int[] row : outside) {
            Check.same("outside", none.seasons(row[0], row[1], row[2]), ThumbSea.OUTSIDE);
            Check.same("outside", Check.sea("o000;o000").seasons(row[0], row[1], row[2]),
                ThumbSea.OUTSIDE);
        }
        ThumbSea x = Check.sea("o900;g200");
        Check.same("each time", x.seasons(60, 0, 0), 60);
        Check.same("by seven", x.seasons(60, 0, 1), 420);
        // 12345, then 1103515245 * 12345 + 12345 and its rest
        Check.same("the second seed", x.seasons(1, 0, 2), (1103515245L * 12345 + 12345) % 2147483648L);
        ThumbSea y = Check.sea("o900;o201");
        Check.same("choose", y.choose(0, 3), 0);
        Check.same("never", y.seasons(60, 5, 0), 0);
        Check.same("so by nothing", y.seasons(60, 5, 1), 0);
    }

    private static void seasonsReckoned() {
        RandomSeas seas = new RandomSeas(37);
        for (int time = 0; time < 300; time++) {
            ThumbSea x = seas.livedIn();
            int times = 1 + seas.below(60);
            int seed = time == 0 ? Integer.MAX_VALUE : seas.below(Integer.MAX_VALUE);
            java.math.BigInteger now = java.math.BigInteger.valueOf(seed);
            long often = 0;
            long apart = 0;
            for (int i = 0; i < times; i++) {
                now = next(now);
                int one = now.intValue() / 65536 % x.count(0);
                now = next(now);
                int other = x.count(0) + now.intValue() / 65536 % x.count(1);
                if ((x.person(one, 7) >> other & 1) == 1 && (x.person(other, 7) >> one & 1) == 1) {
                    often++;
                    apart += Math.abs(x.person(one, 1) - x.person(other, 1));
                }
            }
            long before = x.digest();
            Check.same("often " + time, x.seasons(times, seed, 0), often);
            Check.same("apart " + time, x.seasons(times, seed, 1), apart);
            Check.same("seed " + time, x.seasons(times, seed, 2), now.longValue());
            Check.same("nothing is changed", x.digest(), before);
        }
    }

    private static java.math.BigInteger next(java.math.BigInteger seed) {
        return seed.multiply(java.math.BigInteger.valueOf(1103515245L))
            .add(java.math.BigInteger.valueOf(12345)).mod(java.math.BigInteger.valueOf(2147483648L));
    }
}
