/** Promises 6 to 10: person, as, choose, paint, limit. */
public final class PeopleTest {
    private static final String KINDS = "o605,e110;h526,s714,g903";

    public static void main(String[] args) {
        tellings();
        unknownPeople();
        casts();
        choosing();
        painting();
        limits();
        Check.end();
    }

    private static void tellings() {
        ThumbSea x = Check.sea(KINDS);
        Check.people(x, "kind", 0, 0, 1, 2, 3, 4);
        Check.people(x, "worth", 1, 6, 1, 5, 7, 9);
        Check.people(x, "flattery", 2, 0, 1, 2, 1, 0);
        Check.people(x, "choosy", 3, 5, 0, 6, 4, 3);
        Check.people(x, "side", 4, 0, 0, 1, 1, 1);
        Check.people(x, "how", 5, 0, 0, 0, 0, 2);
        Check.people(x, "couple", 6, -1, -1, -1, -1, -1);
        // pictures: 6, 2; 7, 8, 9
        Check.people(x, "likes", 7, 28, 28, 1, 1, 1);
        Check.people(x, "right", 8, 0, 0, 0, 0, 0);
        Check.people(x, "left", 9, 0, 0, 0, 0, 0);
        Check.people(x, "match", 10, 0, 0, 0, 0, 0);
        Check.people(x, "in a row", 11, 0, 0, 0, 0, 0);
        Check.people(x, "that day", 12, 0, 0, 0, 0, 0);
        Check.people(x, "choosies", 13, 1023, 1023, 1023, 1023, 1023);
        // a picture of 7 leaves 8 at worst, 8 leaves 9, 9 leaves 10; one of 6 and one of 2 leave 7
        Check.people(x, "ask", 14, 2, 2, 0, 0, 0);

        Check.same("show", x.show(0, 2), 1);
        Check.same("show", x.show(2, 0), 2);
        Check.same("show", x.show(2, 1), 0);
        Check.same("show", x.show(0, 3), 1);
        Check.same("show", x.show(3, 0), 2);
        Check.same("choose", x.choose(0, 6), 5);
        Check.same("meet", x.meet(0, 2), 0);
        Check.same("meet", x.meet(3, 0), 1);
        Check.same("show", x.show(1, 4), 1);
        Check.people(x, "how", 5, 1, 0, 0, 1, 2);
        Check.people(x, "couple", 6, 3, -1, -1, 0, -1);
        Check.people(x, "taken and gone ones are liked", 7, 28, 28, 1, 1, 1);
        Check.people(x, "right", 8, 8, 16, 0, 1, 0);
        Check.people(x, "left", 9, 4, 0, 3, 0, 0);
        Check.people(x, "a couple is a match", 10, 8, 0, 0, 1, 0);
        Check.people(x, "in a row", 11, 0, 0, 1, 0, 0);
        Check.people(x, "that day", 12, 2, 1, 1, 1, 0);
    }

    private static void unknownPeople() {
        ThumbSea x = Check.sea(KINDS);
        int[] wrong = {-1, 5, 8, Integer.MIN_VALUE, Integer.MAX_VALUE};
        for (int person : wrong) {
            Check.same("person " + person, x.person(person, 0), ThumbSea.UNKNOWN);
            Check.same("unknown ahead of outside", x.person(person, 15), ThumbSea.UNKNOWN);
            Check.same("as " + person, x.as(person, 0), ThumbSea.UNKNOWN);
            Check.same("as unknown ahead", x.as(person, 5), ThumbSea.UNKNOWN);
            Check.same("choose " + person, x.choose(person, 0), ThumbSea.UNKNOWN);
            Check.same("choose unknown ahead", x.choose(person, 10), ThumbSea.UNKNOWN);
            Check.same("paint " + person, x.paint(person, 0), ThumbSea.UNKNOWN);
            Check.same("paint unknown ahead", x.paint(person, 4), ThumbSea.UNKNOWN);
        }
        int[] outside = {-1, 15, Integer.MIN_VALUE, Integer.MAX_VALUE};
        for (int what : outside) {
            Check.same("person what " + what, x.person(0, what), ThumbSea.OUTSIDE);
        }
    }

    private static void casts() {
        ThumbSea x = Check.sea(KINDS);
        int[][] due = {
            {0, -1, -1, -1, -1}, {1, 1, -1, -1, -1}, {2, -1, 2, -1, -1},
            {3, -1, -1, 3, -1}, {4, -1, -1, 4, 4}};
        for (int person = 0; person < due.length; person++) {
            for (int kind = 0; kind <= 4; kind++) {
                Check.same("as " + person + " " + kind, x.as(person, kind), due[person][kind]);
            }
            Check.same("as -1", x.as(person, -1), ThumbSea.OUTSIDE);
            Check.same("as 5", x.as(person, 5), ThumbSea.OUTSIDE);
        }
    }

    private static void choosing() {
        ThumbSea x = Check.sea(KINDS);
        Check.same("choose", x.choose(0, 8), 5);
        Check.same("choosy", x.person(0, 3), 8);
        Check.same("likes fewer", x.person(0, 7), 24);
        Check.same("choose again", x.choose(0, 9), 8);
        Check.same("likes one", x.person(0, 7), 16);
        Check.same("choose 0", x.choose(0, 0), 9);
        Check.same("choose -1", x.choose(0, -1), ThumbSea.OUTSIDE);
        Check.same("choose 10", x.choose(0, 10), ThumbSea.OUTSIDE);
        Check.same("as it was", x.person(0, 3), 0);
        Check.same("an eager one", x.choose(1, 9), 0);
        Check.same("an eager one likes all", x.person(1, 7), 28);
        Check.same("a gone one", x.choose(4, 6), 3);
        Check.same("a gone one likes", x.person(4, 7), 1);
        Check.same("the other is as he was", x.person(2, 3), 6);
    }

    private static void painting() {
        ThumbSea x = Check.sea(KINDS);
        Check.same("paint", x.paint(0, 3), 0);
        Check.same("flattery", x.person(0, 2), 3);
        Check.same("worth is as it was", x.person(0, 1), 6);
        Check.same("paint again", x.paint(0, 1), 3);
        Check.same("choose", x.choose(2, 7), 6);
        Check.same("a picture of 7", x.person(2, 7), 1);
        Check.same("paint 0", x.paint(0, 0), 1);
        Check.same("a picture of 6", x.person(2, 7), 0);
        Check.same("paint -1", x.paint(0, -1), ThumbSea.OUTSIDE);
        Check.same("paint 4", x.paint(0, 4), ThumbSea.OUTSIDE);
        Check.same("as it was", x.person(0, 2), 0);
    }

    private static void limits() {
        ThumbSea none = new ThumbSea();
        Check.same("limit, no sea", none.limit(1), ThumbSea.STATE);
        Check.same("outside ahead of state", none.limit(0), ThumbSea.OUTSIDE);
        Check.same("outside ahead of state", none.limit(10), ThumbSea.OUTSIDE);
        Check.same("no limit", none.count(8), 0);

        ThumbSea x = Check.sea("o900;o900,o900,o900");
        Check.same("limit", x.limit(2), 9);
        Check.same("limit 0", x.limit(0), ThumbSea.OUTSIDE);
        Check.same("limit 10", x.limit(10), ThumbSea.OUTSIDE);
        Check.same("count", x.count(8), 2);
        Check.same("right", x.show(0, 1), 1);
        Check.same("right", x.show(0, 2), 1);
        Check.same("left by the limit", x.show(0, 3), 0);
        Check.same("back", x.back(0, 3), 0);
        Check.same("limit", x.limit(3), 2);
        Check.same("right by the limit", x.show(0, 3), 1);
        Check.same("limit", x.limit(9), 3);
        Check.same("limit", x.limit(1), 9);
        Check.same("limit", x.limit(1), 1);
    }
}
