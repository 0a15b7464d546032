/** Promises 1 to 5: a new object, letter, blank, fault, sea. */
public final class SeaTest {
    private static final String GREATEST = "o939,e000,h102,s213;g324,o435,e506,h617";

    public static void main(String[] args) {
        newObject();
        letters();
        blanks();
        faults();
        seas();
        refusedSeas();
        anotherSea();
        Check.end();
    }

    private static void newObject() {
        ThumbSea x = new ThumbSea();
        long h = 1123;
        for (int what = 0; what <= 14; what++) {
            Check.same("new count " + what, x.count(what), 0);
            h *= 31;
        }
        Check.same("new digest", x.digest(), h);
        Check.same("new person", x.person(0, 0), ThumbSea.UNKNOWN);
        Check.same("new mutual", x.mutual(), ThumbSea.STATE);
        Check.same("new image", x.image(), ThumbSea.STATE);
        Check.same("new restore", x.restore(), ThumbSea.STATE);
        Check.same("new fault", x.fault(), 0);
        Check.same("new blank", x.blank(), 0);
        Check.same("new forget", x.forget(), 0);
    }

    private static void letters() {
        ThumbSea x = new ThumbSea();
        Check.same("letter 31", x.letter(31), ThumbSea.OUTSIDE);
        Check.same("letter 127", x.letter(127), ThumbSea.OUTSIDE);
        Check.same("letter least", x.letter(Integer.MIN_VALUE), ThumbSea.OUTSIDE);
        Check.same("letter greatest", x.letter(Integer.MAX_VALUE), ThumbSea.OUTSIDE);
        Check.same("nothing came", x.count(13), 0);
        Check.same("letter 32", x.letter(32), 1);
        Check.same("letter 126", x.letter(126), 2);
        for (int n = 3; n <= 41; n++) {
            Check.same("letter " + n, x.letter('o'), n);
        }
        Check.same("letter 42", x.letter('o'), ThumbSea.FULL);
        Check.same("outside ahead of full", x.letter(31), ThumbSea.OUTSIDE);
        Check.same("full page", x.count(13), 41);
    }

    private static void blanks() {
        ThumbSea x = Check.page("o9");
        Check.same("blank", x.blank(), 2);
        Check.same("blank again", x.blank(), 0);
        Check.same("blank page", x.count(13), 0);
        Check.same("letter behind blank", x.letter('g'), 1);
        ThumbSea y = Check.sea("o939;g000");
        Check.write(y, "o1");
        Check.same("blank with a sea", y.blank(), 2);
        Check.same("the sea stays", y.person(1, 0), 4);
    }

    private static void fault(String text, int want) {
        ThumbSea x = Check.page(text);
        Check.same("fault of " + text, x.fault(), want);
        Check.same("fault leaves " + text, x.count(13), text.length());
    }

    private static void faults() {
        fault("", 0);
        fault("O000", 0);
        fault("a", 0);
        fault(" o000", 0);
        fault("o", 1);
        fault("oo", 1);
        fault("o:", 1);
        fault("o/", 1);
        fault("o94", 2);
        fault("o93", 3);
        fault("o9/", 2);
        fault("o93a", 3);
        fault("o93:", 3);
        fault("o939", 4);
        fault("o9390", 4);
        fault("o939 ", 4);
        fault("o939:", 4);
        fault("o939;;", 5);
        fault("o939,,", 5);
        fault("o939,;", 5);
        fault("o939;o0", 7);
        fault("o939;o000;", 9);
        fault("o939;o000;o000", 9);
        fault("o000,o000,o000,o000", 19);
        fault("o000,o000,o000,o000,", 19);
        fault("o000,o000,o000,o000;", 20);
        fault("o000;o000,o000,o000,o000", 24);
        fault("o000;o000,o000,o000,o000,", 24);
        fault("o000;o000,o000,o000,o000;", 24);
        fault("o000,o000,o000;o000,o000,o000;", 29);
        fault(GREATEST, 39);
        fault(GREATEST + ",", 39);
        fault(GREATEST + ";o", 39);
        fault("x939;;", 0);
        fault("o999;x", 2);
    }

    private static void seas() {
        ThumbSea x = Check.page("o939;g000");
        Check.same("least sea", x.sea(), 2);
        Check.same("page is empty", x.count(13), 0);
        Check.same("first side", x.count(0), 1);
        Check.same("second side", x.count(1), 1);
        Check.same("limit", x.count(8), 9);
        Check.same("read", x.count(14), 1);
        Check.same("read again", x.sea(), ThumbSea.STATE);
        Check.same("the sea stays", x.count(0), 1);
        Check.same("still once", x.count(14), 1);

        ThumbSea y = Check.page(GREATEST);
        Check.same("greatest sea", y.sea(), 8);
        Check.people(y, "greatest", 0, 0, 1, 2, 3, 4, 0, 1, 2);
        Check.people(y, "greatest", 1, 9, 0, 1, 2, 3, 4, 5, 6);
        Check.people(y, "greatest", 2, 3, 0, 0, 1, 2, 3, 0, 1);
        Check.people(y, "greatest", 3, 9, 0, 2, 3, 4, 5, 6, 7);
        Check.people(y, "greatest", 4, 0, 0, 0, 0, 1, 1, 1, 1);

        ThumbSea z = Check.sea("o000;o111,o222,o333");
        Check.same("one", z.count(0), 1);
        Check.same("three", z.count(1), 3);
        Check.people(z, "one and three", 4, 0, 1, 1, 1);
    }

    private static void refusedSeas() {
        String[] none = {"", "o", "o93", "o939", "o939;", "o939,", "o939,o000", "o939;o00",
            "o939;o000,", "o939;o000;", "o939;o000;o000", "o949;o000", "o000,o000,o000,o000",
            "o000,o000,o000,o000,o000;o000", "o000;o000,o000,o000,o000,o000", GREATEST + ","};
        for (String text : none) {
            ThumbSea x = Check.page(text);
            Check.same("sea of " + text, x.sea(), ThumbSea.STATE);
            Check.same("page of " + text, x.count(13), text.length());
            Check.same("no person of " + text, x.person(0, 0), ThumbSea.UNKNOWN);
            Check.same("never read " + text, x.count(14), 0);
        }
    }

    private static void anotherSea() {
        ThumbSea x = Check.sea("o900,o800;o700,o600");
        Check.same("show", x.show(0, 2), 1);
        Check.same("show", x.show(2, 0), 2);
        Check.same("show", x.show(1, 3), 1);
        Check.same("back", x.back(1, 3), 1);
        Check.same("meet", x.meet(0, 2), 1);
        Check.same("see", x.see(0, 2, true), 1);
        Check.same("limit", x.limit(2), 9);
        Check.same("choose", x.choose(3, 9), 0);
        Check.same("show", x.show(3, 1), 0);
        Check.same("day", x.day(), 1);
        Check.same("show", x.show(1, 3), 1);
        Check.same("image", x.image(), 1);
        Check.write(x, "o939");
        Check.same("no sea", x.sea(), ThumbSea.STATE);
        Check.same("no other sea, so the image stays", x.restore(), 1);
        Check.same("blank", x.blank(), 4);
        Check.write(x, "o900,o800;o700,o600");
        Check.same("same text, another sea", x.sea(), 4);
        Check.same("image of another sea", x.restore(), ThumbSea.STATE);
        int[] due = {2, 2, 4, 0, 0, 0, 0, 0, 9, 0, 0, 0, 0, 0, 2};
        for (int what = 0; what < due.length; what++) {
            Check.same("another sea, count " + what, x.count(what), due[what]);
        }
        for (int what : new int[] {5, 8, 9, 10, 11, 12}) {
            Check.people(x, "another sea", what, 0, 0, 0, 0);
        }
        Check.people(x, "another sea", 6, -1, -1, -1, -1);
        Check.people(x, "another sea", 3, 0, 0, 0, 0);
        Check.people(x, "another sea", 13, 1023, 1023, 1023, 1023);
    }
}
