/** Promises 25 to 28: image, restore, count, digest. */
public final class AllTest {
    public static void main(String[] args) {
        refusedImages();
        imageKeepsAll();
        latestImage();
        counts();
        digests();
        Check.end();
    }

    private static void refusedImages() {
        ThumbSea x = new ThumbSea();
        Check.same("no sea", x.image(), ThumbSea.STATE);
        Check.same("none was kept", x.restore(), ThumbSea.STATE);
        Check.write(x, "o000;o000");
        Check.same("sea", x.sea(), 2);
        Check.same("none was kept yet", x.restore(), ThumbSea.STATE);
        Check.same("image", x.image(), 0);
        Check.same("restore", x.restore(), 0);
        Check.write(x, "o000;o000");
        Check.same("the page is no sea yet", x.restore(), 0);
        Check.same("sea", x.sea(), 2);
        Check.same("another sea since", x.restore(), ThumbSea.STATE);
        Check.same("image", x.image(), 0);
        Check.same("restore", x.restore(), 0);
    }

    /** Some life, an image, then everything that it keeps is changed. */
    private static void imageKeepsAll() {
        ThumbSea x = Check.sea("o900,o805;h900,o309");
        Check.same("right", x.show(0, 2), 1);
        Check.same("match", x.show(2, 0), 2);
        Check.same("left", x.show(1, 3), 0);
        Check.same("back", x.back(1, 3), 0);
        Check.same("meet", x.meet(0, 2), 1);
        Check.same("limit", x.limit(4), 9);
        Check.same("paint", x.paint(3, 1), 0);
        Check.same("choose", x.choose(3, 2), 9);
        Check.same("day", x.day(), 1);
        Check.same("right", x.show(3, 1), 1);
        Check.same("see", x.see(1, 3, false), 1);
        Check.same("image", x.image(), 1);
        Check.write(x, "o1");
        long before = x.digest();

        Check.same("part", x.part(0), 2);
        Check.same("back of left", x.back(0, 2), 0);
        Check.same("choose", x.choose(1, 3), 5);
        Check.same("match", x.show(1, 3), 2);
        Check.same("meet", x.meet(1, 3), 1);
        Check.same("right", x.show(0, 2), 1);
        Check.same("limit", x.limit(1), 4);
        Check.same("taken", x.show(2, 1), ThumbSea.STATE);
        Check.same("paint", x.paint(0, 2), 0);
        Check.same("choose", x.choose(2, 7), 0);
        Check.same("day", x.day(), 2);
        Check.same("day", x.day(), 3);
        Check.same("see", x.see(0, 3, true), 2);
        Check.same("forget", x.forget(), 2);
        Check.same("see", x.see(2, 1, true), 1);
        Check.same("see", x.see(2, 1, true), 2);
        Check.same("shown already", x.show(2, 0), ThumbSea.STATE);
        Check.same("back", x.back(2, 0), 0);
        Check.same("choose", x.choose(2, 9), 7);
        Check.same("choose", x.choose(0, 9), 0);
        Check.same("part", x.part(1), 3);
        Check.same("left", x.show(0, 3), 0);

        Check.same("restore", x.restore(), 1);
        Check.same("all is as it was", x.digest(), before);
        Check.people(x, "choosy", 3, 0, 5, 0, 2);
        Check.people(x, "flattery", 2, 0, 0, 0, 1);
        Check.people(x, "couple", 6, 2, -1, 0, -1);
        Check.people(x, "right", 8, 4, 0, 1, 2);
        Check.people(x, "in a row", 11, 0, 1, 0, 0);
        Check.people(x, "that day", 12, 0, 0, 0, 1);
        int[] due = {2, 2, 2, 1, 0, 0, 3, 1, 4, 1, 1, 1, 1, 2, 1};
        for (int what = 0; what < due.length; what++) {
            Check.same("restored, count " + what, x.count(what), due[what]);
        }
        Check.same("choosies", x.person(1, 13), 1023 - 31);

        Check.same("day", x.day(), 2);
        Check.same("letter", x.letter('2'), 3);
        Check.same("restore again", x.restore(), 1);
        Check.same("the page is not in it", x.count(13), 3);
        Check.same("blank", x.blank(), 3);
        Check.same("restore", x.restore(), 1);
        Check.same("the page is not in it", x.count(13), 0);
    }

    private static void latestImage() {
        ThumbSea x = Check.sea("o900;o900");
        Check.same("image", x.image(), 0);
        Check.same("day", x.day(), 1);
        Check.same("right", x.show(0, 1), 1);
        Check.same("image", x.image(), 1);
        Check.same("day", x.day(), 2);
        Check.same("restore the latest", x.restore(), 1);
        Check.same("right", x.person(0, 8), 2);
        Check.same("an image is not changed by what goes on", x.back(0, 1), 1);
        Check.same("restore", x.restore(), 1);
        Check.same("right", x.person(0, 8), 2);
    }

    private static void counts() {
        ThumbSea none = new ThumbSea();
        for (int what : new int[] {-1, 15, Integer.MIN_VALUE, Integer.MAX_VALUE}) {
            Check.same("outside", none.count(what), ThumbSea.OUTSIDE);
            Check.same("outside", Check.sea("o000;o000").count(what), ThumbSea.OUTSIDE);
        }
        ThumbSea x = Check.sea("o900,o900,g900;o900,o900,g900,g900");
        Check.same("gone, the first one, too", Check.sea("g000;o000").count(4), 1);
        Check.same("gone, the last one, too", Check.sea("o000;g000").count(4), 1);
        Check.same("right", x.show(0, 3), 1);
        Check.same("match", x.show(3, 0), 2);
        Check.same("right", x.show(1, 3), 1);
        Check.same("match", x.show(3, 1), 2);
        Check.same("right", x.show(1, 4), 1);
        Check.same("match", x.show(4, 1), 2);
        Check.same("right", x.show(1, 5), 1);
        Check.same("back", x.back(1, 5), 1);
        Check.same("choose", x.choose(4, 9), 0);
        Check.same("choose", x.choose(0, 9), 0);
        Check.same("paint", x.paint(4, 1), 0);
        Check.same("limit", x.limit(5), 9);
        Check.same("limit", x.limit(4), 5);
        Check.same("right below the limit", x.show(1, 6), 1);
        Check.same("left by the limit", x.show(1, 5), 0);
        Check.same("meet", x.meet(0, 3), 1);
        Check.same("see", x.see(0, 6, true), 1);
        Check.same("see", x.see(0, 6, true), 2);
        Check.same("day", x.day(), 1);
        Check.same("day", x.day(), 2);
        Check.same("day", x.day(), 3);
        Check.write(x, "abcde");
        int[] due = {3, 4, 2, 1, 3, 2, 8, 1, 4, 3, 1, 1, 2, 5, 1};
        for (int what = 0; what < due.length; what++) {
            Check.same("count " + what, x.count(what), due[what]);
        }
    }

    private static long fold(long h, long number) {
        return h * 31 + number;
    }

    private static long reckoned(ThumbSea x, String page) {
        long h = 1123;
        int people = x.count(0) + x.count(1);
        for (int person = 0; person < people; person++) {
            for (int what = 0; what <= 14; what++) {
                h = fold(h, x.person(person, what));
            }
        }
        if (people > 0) {
            for (int what : new int[] {0, 1, 10, 11, 12, 13}) {
                h = fold(h, x.lasting(what));
            }
            h = fold(h, x.mutual());
            h = fold(h, x.best(3, 0));
            h = fold(h, x.best(3, 1));
        }
        for (int i = 0; i < page.length(); i++) {
            h = fold(h, page.charAt(i));
        }
        for (int what = 0; what <= 14; what++) {
            h = fold(h, x.count(what));
        }
        return h;
    }

    private static void digests() {
        ThumbSea none = Check.page("o9 ~");
        Check.same("digest of a page", none.digest(), reckoned(none, "o9 ~"));
        RandomSeas seas = new RandomSeas(5);
        for (int time = 0; time < 200; time++) {
            ThumbSea x = seas.livedIn();
            String page = seas.below(2) == 0 ? "" : seas.text();
            Check.write(x, page);
            Check.same("digest " + time, x.digest(), reckoned(x, page));
            Check.same("digest changes nothing", x.digest(), reckoned(x, page));
        }
    }
}
