/**
 * "An object is used for at most 512 calls after it has been made": what the promises say is asked
 * for at every one of these calls, up to the last one.
 */
public final class LongRunTest {
    private static final int MOST_CALLS = 512;

    private final ThumbSea x = new ThumbSea();
    private int calls;

    public static void main(String[] args) {
        new LongRunTest().promise2LettersTillFull();
        new LongRunTest().promise3BlanksAndFaults();
        new LongRunTest().promise5SeasOneBehindTheOther();
        new LongRunTest().promise8And9ChooseAndPaint();
        new LongRunTest().promise11HastyRow();
        new LongRunTest().promise12BackForMoney();
        new LongRunTest().promise13DaysTillFull();
        new LongRunTest().promise14And15MeetAndPart();
        new LongRunTest().failedMeetings();
        new LongRunTest().promise18To21ToldAgainAndAgain();
        new LongRunTest().promise22And23SeeAndForget();
        new LongRunTest().promise24SeasonsFromSeedToSeed();
        new LongRunTest().promise25And26ImagesAndRestores();
        new LongRunTest().promise28DigestsWithoutEnd();
        twoObjectsSideBySide();
        Check.end();
    }

    /** Whether so many calls more are left. */
    private boolean left(int more) {
        return calls + more <= MOST_CALLS;
    }

    private void due(String call, long got, long want) {
        calls++;
        Check.same("call " + calls + ", " + call, got, want);
    }

    private void sea(String text) {
        for (int i = 0; i < text.length(); i++) {
            due("letter of " + text, x.letter(text.charAt(i)), i + 1);
        }
        due("sea " + text, x.sea(), (text.length() + 1) / 5);
    }

    /** "FULL: above 41", however often it is tried. */
    private void promise2LettersTillFull() {
        for (int letters = 1; left(3); letters++) {
            due("letter", x.letter('o'), letters <= 41 ? letters : ThumbSea.FULL);
        }
        due("fault", x.fault(), 1);
        due("letters", x.count(13), 41);
        due("blank", x.blank(), 41);
    }

    private void promise3BlanksAndFaults() {
        for (int round = 0; left(4); round++) {
            due("letter", x.letter(round % 2 == 0 ? 's' : 'S'), 1);
            due("fault", x.fault(), round % 2 == 0 ? 1 : 0);
            due("sea", x.sea(), ThumbSea.STATE);
            due("blank", x.blank(), 1);
        }
        Check.same("no sea", x.count(14), 0);
    }

    /** "another one is gone, with all that was", but how often a SEA was read is told to the end. */
    private void promise5SeasOneBehindTheOther() {
        int read = 0;
        while (left(16)) {
            sea("o00" + read % 10 + ";o900");
            read++;
            due("choosy", x.person(0, 3), (read - 1) % 10);
            due("right", x.show(0, 1), 1);
            due("rights in all", x.count(6), 1);
            due("limit", x.limit(1), 9);
            due("day", x.day(), 1);
            due("how often", x.count(14), read);
        }
        Check.same("seas read", read, MOST_CALLS / 16);
    }

    private void promise8And9ChooseAndPaint() {
        sea("o505;o430");
        int choosy = 5;
        int flattery = 3;
        for (int round = 1; left(3); round++) {
            due("choose", x.choose(0, round % 10), choosy);
            due("paint", x.paint(1, round % 4), flattery);
            choosy = round % 10;
            flattery = round % 4;
            due("likes", x.person(0, 7), 4 + flattery >= choosy ? 2 : 0);
        }
    }

    /** "not behind three, but behind five, and so on": by LEFTS alone, over BACKS and DAYS. */
    private void promise11HastyRow() {
        sea("h001;o000,o100");
        int row = 0;
        while (left(5)) {
            due("left", x.show(0, 1), 0);
            due("back", x.back(0, 1), 0);
            row++;
            // a HASTY LEFT on one whom he likes makes the row longer; a RIGHT would end it
            if (row % 3 == 2) {
                due("hasty", x.show(0, 2), 0);
                due("back", x.back(0, 2), 0);
                row++;
            }
            due("in a row", x.person(0, 11), row);
        }
        Check.same("a long row", row > 180 ? 1 : 0, 1);
        Check.same("lefts in all", x.count(7), row);
        Check.same("rights in all", x.count(6), 0);
    }

    private void promise12BackForMoney() {
        sea("o000;o000");
        int paid = 0;
        while (left(3)) {
            // nine RIGHTS are the LIMIT of the one DAY
            due("show", x.show(0, 1), paid < 9 ? 1 : 0);
            due("back", x.back(0, 1), paid < 9 ? 1 : 0);
            paid++;
            due("money", x.count(10), paid);
        }
        Check.same("rights in all", x.count(6), 9);
        Check.same("lefts in all", x.count(7), paid - 9);
        Check.same("rights on that day", x.person(0, 12), 9);
    }

    /** "FULL: it would be the 100th." */
    private void promise13DaysTillFull() {
        sea("o000;o000");
        for (int day = 1; left(1); day++) {
            due("day", x.day(), day <= 99 ? day : ThumbSea.FULL);
        }
        Check.same("days", x.count(9), 99);
    }

    private void promise14And15MeetAndPart() {
        sea("o900,e000;s900,o009");
        int times = 0;
        while (left(9)) {
            due("right", x.show(0, 2), 1);
            due("match", x.show(2, 0), 2);
            due("meet", x.meet(2, 0), 1);
            due("couples", x.count(3), 1);
            due("part", x.part(times % 2 * 2), 2 - times % 2 * 2);
            times++;
            due("met", x.count(11), times);
            due("back", x.back(0, 2), 0);
            due("back", x.back(2, 0), 0);
            due("day", x.day(), times);
        }
        Check.same("times", times > 50 ? 1 : 0, 1);
        Check.same("rights in all", x.count(6), 2 * times);
        Check.same("lefts in all", x.count(7), 0);
        Check.same("money", x.count(10), 2 * times);
        Check.people(x, "nobody was shown", 9, 0, 0, 0, 0);
    }

    /** "else each has gone LEFT on the other one (that counts for nothing else)". */
    private void failedMeetings() {
        sea("o905;o430");
        int times = 0;
        while (left(7)) {
            due("right", x.show(0, 1), 1);
            due("match", x.show(1, 0), 2);
            due("meet", x.meet(0, 1), 0);
            due("in a row", x.person(0, 11), 0);
            due("back", x.back(0, 1), 0);
            due("back", x.back(1, 0), 0);
            times++;
            due("day", x.day(), times);
        }
        Check.same("met", x.count(11), times);
        Check.same("lefts in all", x.count(7), 0);
    }

    /** What would be is told, and leaves nothing behind in the object. */
    private void promise18To21ToldAgainAndAgain() {
        sea("o535,e211,h714,o803;o624,s513,e300,h902");
        while (left(9)) {
            due("comes", x.comes(2, 1, 0), 3);
            due("comes by picture", x.comes(2, 1, 1), 2);
            due("comes by another limit", x.comes(2, 2, 0), 9);
            due("best", x.best(2, 0), 3);
            due("lasting", x.lasting(11), 6);
            due("mutual", x.mutual(), 13);
            due("waiting", x.waiting(4, 1, 0), 11);
            due("waiting below", x.waiting(4, 1, 1), 24);
            due("how many", x.howMany(8), 3);
        }
        Check.same("rights in all", x.count(6), 0);
        Check.same("limit", x.count(8), 9);
    }

    /** "SEEN (8 at most)". */
    private void promise22And23SeeAndForget() {
        sea("o000;o400");
        while (left(12)) {
            for (int much = 1; much <= 10; much++) {
                due("see", x.see(0, 1, true), much <= 8 ? much : ThumbSea.FULL);
            }
            due("choosies", x.person(0, 13), 31);
            due("forget", x.forget(), 8);
        }
        Check.same("choosies", x.person(0, 13), 1023);
    }

    private void promise24SeasonsFromSeedToSeed() {
        sea("o900;o000");
        long seed = 77;
        while (left(2)) {
            long next = seed;
            for (int draw = 0; draw < 4; draw++) {
                next = (1103515245L * next + 12345) % 2147483648L;
            }
            due("by how much", x.seasons(2, (int) seed, 1), 18);
            due("the seed then", x.seasons(2, (int) seed, 2), next);
            seed = next;
        }
    }

    /** "one; the latest": each RESTORE goes on from the one kept last, time and again. */
    private void promise25And26ImagesAndRestores() {
        sea("o900,o000;o900,o009");
        due("none was kept", x.restore(), ThumbSea.STATE);
        for (int day = 0; left(13) && day < 99; day++) {
            due("image", x.image(), day);
            due("right", x.show(0, 2), 1);
            due("match", x.show(2, 0), 2);
            due("meet", x.meet(0, 2), 1);
            due("restore", x.restore(), day);
            due("nobody met", x.count(11), 0);
            due("choose", x.choose(1, 9), 0);
            due("see", x.see(1, 2, true), 1);
            due("day", x.day(), day + 1);
            due("restore again", x.restore(), day);
            due("choosy as kept", x.person(1, 3), 0);
            due("seen as kept", x.count(12), 0);
            due("day", x.day(), day + 1);
        }
    }

    private void promise28DigestsWithoutEnd() {
        sea("o605,h526;s714,g903,e020");
        // the digest of run 1 of the shared tests, whose RESTORE leaves all as it was at first
        while (left(1)) {
            due("digest", x.digest(), -5205206109934662068L);
        }
    }

    /** The same calls always give the same answers: nothing is shared by two objects. */
    private static void twoObjectsSideBySide() {
        LongRunTest one = new LongRunTest();
        LongRunTest other = new LongRunTest();
        one.sea("o605,h526;s714,g903,e020");
        other.sea("g000;g000");
        long second = other.x.digest();
        other.calls++;
        while (one.left(1) && other.left(1)) {
            one.due("digest of one", one.x.digest(), -5205206109934662068L);
            other.due("digest of the other one", other.x.digest(), second);
        }
    }
}
