/** Promises 11 to 15: show, back, day, meet, part. */
public final class ShownTest {
    public static void main(String[] args) {
        rightAndLeft();
        eagerOnes();
        hastyOnes();
        shyOnes();
        goneOnes();
        limitOfADay();
        refusedShows();
        backs();
        days();
        meetings();
        partings();
        unknownOnes();
        Check.end();
    }

    private static void rightAndLeft() {
        ThumbSea x = Check.sea("o505,o604;o419,o321");
        Check.same("a picture as much as choosy", x.show(0, 2), 1);
        Check.same("one less is right, too", x.show(1, 2), 1);
        Check.same("a picture of 5", x.show(0, 3), 1);
        Check.same("left on 5, choosy 9", x.show(2, 0), 0);
        Check.same("match", x.show(3, 0), 2);
        Check.same("right first", x.show(3, 1), 1);
        Check.same("match behind", x.show(1, 3), 2);
        Check.people(x, "right", 8, 12, 12, 0, 3);
        Check.people(x, "left", 9, 0, 0, 1, 0);
        Check.people(x, "match", 10, 8, 8, 0, 3);
        Check.same("rights", x.count(6), 6);
        Check.same("lefts", x.count(7), 1);
        Check.same("matches", x.count(5), 2);
        Check.people(x, "in a row", 11, 0, 0, 1, 0);
        Check.people(x, "that day", 12, 2, 2, 0, 2);
    }

    private static void eagerOnes() {
        ThumbSea x = Check.sea("e009;o000");
        Check.same("an eager one goes right on all", x.show(0, 1), 1);
        Check.same("match", x.show(1, 0), 2);
    }

    /** One other is taken back again and again, so that the row grows without end. */
    private static void hastyOnes() {
        ThumbSea x = Check.sea("h005;o400,o500");
        int row = 0;
        for (int time = 0; time < 7; time++) {
            Check.same("left", x.show(0, 1), 0);
            Check.same("back", x.back(0, 1), 0);
            row++;
            Check.same("in a row", x.person(0, 11), row);
        }
        Check.same("a liked one behind seven", x.show(0, 2), 1);
        Check.same("none in a row", x.person(0, 11), 0);
        for (int lefts = 0; lefts <= 12; lefts++) {
            ThumbSea y = Check.sea("h005;o400,o500");
            for (int time = 0; time < lefts; time++) {
                Check.same("left", y.show(0, 1), 0);
                Check.same("back", y.back(0, 1), 0);
            }
            boolean hastens = lefts == 2 || lefts == 5 || lefts == 8 || lefts == 11;
            Check.same("behind " + lefts, y.show(0, 2), hastens ? 0 : 1);
            Check.same("row behind " + lefts, y.person(0, 11), hastens ? lefts + 1 : 0);
        }
        ThumbSea z = Check.sea("o005;o400,o500");
        for (int time = 0; time < 2; time++) {
            Check.same("left", z.show(0, 1), 0);
            Check.same("back", z.back(0, 1), 0);
        }
        Check.same("one who is not hasty looks", z.show(0, 2), 1);
    }

    private static void shyOnes() {
        ThumbSea x = Check.sea("s000,s009;o500,o500");
        Check.same("shy first", x.show(0, 2), 0);
        Check.same("the other goes right", x.show(2, 0), 1);
        Check.same("shown already", x.show(0, 2), ThumbSea.STATE);
        Check.same("back", x.back(0, 2), 0);
        Check.same("shy behind", x.show(0, 2), 2);
        Check.same("right on a choosy shy one", x.show(2, 1), 1);
        Check.same("a shy one who does not like", x.show(1, 2), 0);
        Check.same("right", x.show(3, 0), 1);
        Check.same("not right any more", x.back(3, 0), 1);
        Check.same("so a shy one goes left", x.show(0, 3), 0);
        Check.same("shy ones' row", x.person(0, 11), 1);
    }

    private static void goneOnes() {
        ThumbSea x = Check.sea("g900;o000,s000");
        Check.same("a gone one is shown nobody", x.show(0, 1), ThumbSea.STATE);
        Check.same("but shown", x.show(1, 0), 1);
        Check.same("to a shy one, too", x.show(2, 0), 0);
        Check.same("no match", x.meet(0, 1), ThumbSea.STATE);
        Check.same("nothing to take back", x.back(0, 1), ThumbSea.STATE);
    }

    private static void limitOfADay() {
        ThumbSea x = Check.sea("e000,o000;o500,o500,o500,o509");
        Check.same("limit", x.limit(1), 9);
        Check.same("right", x.show(0, 2), 1);
        Check.same("an eager one keeps to it, too", x.show(0, 3), 0);
        Check.same("each has his own", x.show(1, 2), 1);
        Check.same("back", x.back(0, 2), 1);
        Check.same("that day stays", x.person(0, 12), 1);
        Check.same("so left", x.show(0, 2), 0);
        Check.same("in a row", x.person(0, 11), 2);
        Check.same("day", x.day(), 1);
        Check.same("that day", x.person(0, 12), 0);
        Check.same("the row stays", x.person(0, 11), 2);
        Check.same("right again", x.show(0, 4), 1);
        Check.same("left again", x.show(0, 5), 0);
        Check.same("that day", x.person(0, 12), 1);
    }

    private static void refusedShows() {
        ThumbSea x = Check.sea("o500,o500,o500;o500,o500");
        Check.same("to himself", x.show(0, 0), ThumbSea.STATE);
        Check.same("one side", x.show(0, 1), ThumbSea.STATE);
        Check.same("one side", x.show(4, 3), ThumbSea.STATE);
        Check.same("right", x.show(0, 3), 1);
        Check.same("again", x.show(0, 3), ThumbSea.STATE);
        Check.same("match", x.show(3, 0), 2);
        Check.same("meet", x.meet(3, 0), 1);
        Check.same("one is taken", x.show(0, 4), ThumbSea.STATE);
        Check.same("the other is taken", x.show(4, 0), ThumbSea.STATE);
        Check.same("one is taken", x.show(3, 1), ThumbSea.STATE);
        Check.same("the other is taken", x.show(1, 3), ThumbSea.STATE);
        Check.same("the others go on", x.show(1, 4), 1);
        Check.same("rights", x.count(6), 3);
        Check.same("lefts", x.count(7), 0);
    }

    private static void backs() {
        ThumbSea x = Check.sea("o500,o509;o500,o500");
        Check.same("not shown", x.back(0, 2), ThumbSea.STATE);
        Check.same("himself", x.back(0, 0), ThumbSea.STATE);
        Check.same("one side", x.back(0, 1), ThumbSea.STATE);
        Check.same("right", x.show(0, 2), 1);
        Check.same("the other one was not", x.back(2, 0), ThumbSea.STATE);
        Check.same("match", x.show(2, 0), 2);
        Check.same("left", x.show(1, 2), 0);
        Check.same("nobody paid yet", x.count(10), 0);
        Check.same("back of right", x.back(2, 0), 1);
        Check.same("back of left", x.back(1, 2), 0);
        Check.same("paid", x.count(10), 2);
        Check.same("no match any more", x.count(5), 0);
        Check.same("meet", x.meet(0, 2), ThumbSea.STATE);
        Check.people(x, "right", 8, 4, 0, 0, 0);
        Check.people(x, "left", 9, 0, 0, 0, 0);
        Check.people(x, "in a row", 11, 0, 1, 0, 0);
        Check.people(x, "that day", 12, 1, 0, 1, 0);
        Check.same("rights in all", x.count(6), 2);
        Check.same("lefts in all", x.count(7), 1);
        Check.same("again", x.back(1, 2), ThumbSea.STATE);
        Check.same("match again", x.show(2, 0), 2);
        Check.same("meet", x.meet(0, 2), 1);
        Check.same("a couple", x.back(0, 2), ThumbSea.STATE);
        Check.same("a couple", x.back(2, 0), ThumbSea.STATE);
        Check.same("paid", x.count(10), 2);
    }

    private static void days() {
        Check.same("no sea", new ThumbSea().day(), ThumbSea.STATE);
        ThumbSea x = Check.sea("o000;o000");
        for (int day = 1; day <= 99; day++) {
            Check.same("day", x.day(), day);
        }
        Check.same("the 100th", x.day(), ThumbSea.FULL);
        Check.same("days", x.count(9), 99);
    }

    /** Of one and one: both go right. */
    private static ThumbSea matched(String text) {
        ThumbSea x = Check.sea(text);
        Check.same("right", x.show(0, 1), 1);
        Check.same("match", x.show(1, 0), 2);
        return x;
    }

    private static void meetings() {
        Check.same("worth as much as choosy", matched("o505;o505").meet(0, 1), 1);
        Check.same("a picture that flatters", matched("o415;o505").meet(0, 1), 0);
        Check.same("the other way round", matched("o505;o415").meet(0, 1), 0);
        Check.same("told by the other one", matched("o505;o415").meet(1, 0), 0);
        Check.same("an eager one is content", matched("e509;o005").meet(0, 1), 1);
        Check.same("the other one is not", matched("e239;o005").meet(0, 1), 0);

        ThumbSea x = matched("o505;o415");
        Check.same("meet", x.meet(0, 1), 0);
        Check.people(x, "right", 8, 0, 0);
        Check.people(x, "left", 9, 2, 1);
        Check.people(x, "how", 5, 0, 0);
        Check.people(x, "in a row", 11, 0, 0);
        Check.people(x, "that day", 12, 1, 1);
        int[] due = {1, 1, 2, 0, 0, 0, 2, 0, 9, 0, 0, 1, 0, 0, 1};
        for (int what = 0; what < due.length; what++) {
            Check.same("behind a meeting, count " + what, x.count(what), due[what]);
        }
        Check.same("no match any more", x.meet(0, 1), ThumbSea.STATE);
        Check.same("shown already", x.show(0, 1), ThumbSea.STATE);
        Check.same("back of left", x.back(0, 1), 0);
        Check.same("right once more", x.show(0, 1), 1);
        Check.same("the other one back", x.back(1, 0), 0);
        Check.same("match once more", x.show(1, 0), 2);
        Check.same("choose", x.choose(0, 4), 5);
        Check.same("content now", x.meet(1, 0), 1);
        Check.same("met", x.count(11), 2);
        couplesOf();
        refusedMeetings();
    }

    private static void couplesOf() {
        ThumbSea x = matched("o505;o505");
        Check.same("meet", x.meet(0, 1), 1);
        Check.people(x, "how", 5, 1, 1);
        Check.people(x, "couple", 6, 1, 0);
        Check.people(x, "right", 8, 2, 1);
        Check.people(x, "match", 10, 2, 1);
        int[] due = {1, 1, 0, 1, 0, 0, 2, 0, 9, 0, 0, 1, 0, 0, 1};
        for (int what = 0; what < due.length; what++) {
            Check.same("of a couple, count " + what, x.count(what), due[what]);
        }
        Check.same("taken", x.meet(0, 1), ThumbSea.STATE);
    }

    private static void refusedMeetings() {
        ThumbSea x = Check.sea("o900,o900;o900,o900");
        Check.same("himself", x.meet(0, 0), ThumbSea.STATE);
        Check.same("one side", x.meet(0, 1), ThumbSea.STATE);
        Check.same("nobody was shown", x.meet(0, 2), ThumbSea.STATE);
        Check.same("right", x.show(0, 2), 1);
        Check.same("one alone went right", x.meet(0, 2), ThumbSea.STATE);
        Check.same("the other one did not", x.meet(2, 0), ThumbSea.STATE);
        Check.same("match", x.show(2, 0), 2);
        Check.same("right", x.show(1, 2), 1);
        Check.same("match", x.show(2, 1), 2);
        Check.same("right", x.show(0, 3), 1);
        Check.same("match", x.show(3, 0), 2);
        Check.same("matches", x.count(5), 3);
        Check.same("meet", x.meet(0, 2), 1);
        Check.same("the other is taken", x.meet(1, 2), ThumbSea.STATE);
        Check.same("one is taken", x.meet(2, 1), ThumbSea.STATE);
        Check.same("one is taken", x.meet(0, 3), ThumbSea.STATE);
        Check.same("met once", x.count(11), 1);
        Check.same("two who are no couple are a match still", x.count(5), 2);
        Check.people(x, "match", 10, 12, 4, 3, 1);
        Check.same("back of one who is taken", x.back(2, 1), 1);
        Check.same("matches", x.count(5), 1);
    }

    private static void partings() {
        ThumbSea x = Check.sea("o900,o900;o900,o900");
        Check.same("not taken", x.part(0), ThumbSea.STATE);
        Check.same("right", x.show(0, 3), 1);
        Check.same("match", x.show(3, 0), 2);
        Check.same("not taken yet", x.part(0), ThumbSea.STATE);
        Check.same("meet", x.meet(0, 3), 1);
        Check.same("another one", x.part(1), ThumbSea.STATE);
        Check.same("part", x.part(3), 0);
        Check.people(x, "how", 5, 0, 0, 0, 0);
        Check.people(x, "couple", 6, -1, -1, -1, -1);
        Check.people(x, "right", 8, 0, 0, 0, 0);
        Check.people(x, "left", 9, 8, 0, 0, 1);
        Check.people(x, "in a row", 11, 0, 0, 0, 0);
        Check.same("couples", x.count(3), 0);
        Check.same("free", x.count(2), 4);
        Check.same("matches", x.count(5), 0);
        Check.same("rights in all", x.count(6), 2);
        Check.same("lefts in all", x.count(7), 0);
        Check.same("met", x.count(11), 1);
        Check.same("both have parted", x.part(0), ThumbSea.STATE);
        Check.same("both have parted", x.part(3), ThumbSea.STATE);
        Check.same("shown already", x.show(0, 3), ThumbSea.STATE);
        Check.same("free for others", x.show(0, 2), 1);
        Check.same("back of left", x.back(0, 3), 0);
        Check.same("right again", x.show(0, 3), 1);
        Check.same("back", x.back(3, 0), 0);
        Check.same("match again", x.show(3, 0), 2);
        Check.same("meet again", x.meet(0, 3), 1);
        Check.same("part by the first one", x.part(0), 3);
    }

    private static void unknownOnes() {
        ThumbSea none = new ThumbSea();
        Check.same("show", none.show(0, 0), ThumbSea.UNKNOWN);
        Check.same("back", none.back(0, 1), ThumbSea.UNKNOWN);
        Check.same("meet", none.meet(0, 1), ThumbSea.UNKNOWN);
        Check.same("part", none.part(0), ThumbSea.UNKNOWN);
        ThumbSea x = Check.sea("o000;o000");
        for (int wrong : new int[] {-1, 2, Integer.MIN_VALUE, Integer.MAX_VALUE}) {
            Check.same("show", x.show(wrong, 0), ThumbSea.UNKNOWN);
            Check.same("show", x.show(0, wrong), ThumbSea.UNKNOWN);
            Check.same("back", x.back(wrong, 0), ThumbSea.UNKNOWN);
            Check.same("back", x.back(0, wrong), ThumbSea.UNKNOWN);
            Check.same("meet", x.meet(wrong, 0), ThumbSea.UNKNOWN);
            Check.same("meet", x.meet(0, wrong), ThumbSea.UNKNOWN);
            Check.same("part", x.part(wrong), ThumbSea.UNKNOWN);
        }
    }
}
