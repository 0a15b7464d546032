/**
 * A sea of two sides of people who are shown to each other: who goes right on whom, who meets,
 * who is taken, what would come of it, and what can be guessed of how choosy one is.
 *
 * <p>Every row is made in a constructor and used again, so that no call makes an object.
 */
public final class ThumbSea {
    public static final int NONE = -1, UNKNOWN = -101, OUTSIDE = -102, STATE = -103, FULL = -104;

    private static final int MOST_ON_A_SIDE = 4;
    private static final int MOST_PEOPLE = 2 * MOST_ON_A_SIDE;
    private static final int MOST_LETTERS = 41;
    private static final int MOST_DAYS = 99;
    private static final int MOST_SEEN = 8;
    private static final int GREATEST_CHOOSY = 9;
    private static final int GREATEST_FLATTERY = 3;
    private static final int GREATEST_LIMIT = 9;
    private static final int LAST_PERSON_TELLING = 14;
    private static final int LAST_COUNT = 14;
    /** From here on lasting() is asked whom one of the first SIDE has. */
    private static final int FIRST_MATE = 10;
    private static final int LAST_MATE = FIRST_MATE + MOST_ON_A_SIDE - 1;

    private final Page page = new Page();
    private final Crowd crowd = new Crowd();
    private final Crowd kept = new Crowd();
    private final Trial trial = new Trial();
    private final LastingRows lastingRows = new LastingRows();
    private boolean imageKept;
    private int seasRead;

    /** No SEA: a crowd is empty until a page is read. */
    public ThumbSea() {
    }

    // ---- the sea

    public int letter(int code) {
        if (!isWithin(code, 32, 126)) {
            return OUTSIDE;
        }
        return page.add(code) ? page.length : FULL;
    }

    public int blank() {
        int had = page.length;
        page.clear();
        return had;
    }

    public int fault() {
        return page.firstFault();
    }

    public int sea() {
        if (!page.isSea()) {
            return STATE;
        }
        crowd.readFrom(page);
        page.clear();
        imageKept = false;
        seasRead++;
        return crowd.size;
    }

    // ---- people

    public int person(int person, int what) {
        if (!crowd.has(person)) {
            return UNKNOWN;
        }
        return crowd.tellOf(crowd.people[person], what);
    }

    public int as(int person, int kind) {
        if (!crowd.has(person)) {
            return UNKNOWN;
        }
        if (!Kind.isNumber(kind)) {
            return OUTSIDE;
        }
        return crowd.people[person].kind.isA(kind) ? person : NONE;
    }

    public int choose(int person, int choosy) {
        if (!crowd.has(person)) {
            return UNKNOWN;
        }
        if (!isWithin(choosy, 0, GREATEST_CHOOSY)) {
            return OUTSIDE;
        }
        int was = crowd.people[person].choosy;
        crowd.people[person].choosy = choosy;
        return was;
    }

    public int paint(int person, int flattery) {
        if (!crowd.has(person)) {
            return UNKNOWN;
        }
        if (!isWithin(flattery, 0, GREATEST_FLATTERY)) {
            return OUTSIDE;
        }
        int was = crowd.people[person].flattery;
        crowd.people[person].flattery = flattery;
        return was;
    }

    public int limit(int limit) {
        if (!isLimit(limit)) {
            return OUTSIDE;
        }
        if (crowd.isEmpty()) {
            return STATE;
        }
        int was = crowd.limit;
        crowd.limit = limit;
        return was;
    }

    // ---- who is shown

    public int show(int one, int other) {
        if (!crowd.has(one) || !crowd.has(other)) {
            return UNKNOWN;
        }
        Person viewer = crowd.people[one];
        Person shown = crowd.people[other];
        if (!viewer.canBeShown(shown)) {
            return STATE;
        }
        if (!crowd.present(viewer, shown)) {
            return 0;
        }
        return viewer.isMatchOf(shown) ? 2 : 1;
    }

    public int back(int one, int other) {
        if (!crowd.has(one) || !crowd.has(other)) {
            return UNKNOWN;
        }
        Person viewer = crowd.people[one];
        Person shown = crowd.people[other];
        if (!viewer.wasShown(shown) || viewer.isCoupleWith(shown)) {
            return STATE;
        }
        int went = viewer.wentRightOn(shown) ? 1 : 0;
        viewer.takeBack(shown);
        crowd.paid++;
        return went;
    }

    public int day() {
        if (crowd.isEmpty()) {
            return STATE;
        }
        if (crowd.days >= MOST_DAYS) {
            return FULL;
        }
        crowd.days++;
        crowd.startDay();
        return crowd.days;
    }

    public int meet(int one, int other) {
        if (!crowd.has(one) || !crowd.has(other)) {
            return UNKNOWN;
        }
        Person first = crowd.people[one];
        Person second = crowd.people[other];
        if (!first.isMatchOf(second) || first.isTaken() || second.isTaken()) {
            return STATE;
        }
        crowd.met++;
        if (first.isContentWith(second.worth) && second.isContentWith(first.worth)) {
            first.partner = other;
            second.partner = one;
            return 1;
        }
        first.turnLeftOn(second);
        second.turnLeftOn(first);
        return 0;
    }

    public int part(int person) {
        if (!crowd.has(person)) {
            return UNKNOWN;
        }
        Person one = crowd.people[person];
        int partner = one.partner;
        if (!crowd.has(partner)) {
            return STATE;
        }
        Person other = crowd.people[partner];
        one.partner = NONE;
        other.partner = NONE;
        one.turnLeftOn(other);
        other.turnLeftOn(one);
        return partner;
    }

    // ---- what would be

    public int lasting(int what) {
        if (!LastingRows.canTell(what)) {
            return OUTSIDE;
        }
        if (crowd.isEmpty()) {
            return STATE;
        }
        lastingRows.workOut(crowd);
        return lastingRows.tell(what);
    }

    public int mutual() {
        if (crowd.isEmpty()) {
            return STATE;
        }
        return crowd.mutualTwos();
    }

    public int comes(int days, int limit, int order) {
        if (!Trial.isDays(days) || !isLimit(limit) || !Trial.isOrder(order)) {
            return OUTSIDE;
        }
        if (crowd.isEmpty()) {
            return STATE;
        }
        return trial.matchesAfter(crowd, days, limit, order);
    }

    public int best(int days, int order) {
        if (!Trial.isDays(days) || !Trial.isOrder(order)) {
            return OUTSIDE;
        }
        if (crowd.isEmpty()) {
            return STATE;
        }
        return trial.bestLimit(crowd, days, order);
    }

    public int waiting(int others, int by, int what) {
        if (!Wait.isOthers(others) || !isWithin(by, 0, others - 1) || !isWithin(what, 0, 1)) {
            return OUTSIDE;
        }
        int above = Wait.partsOfBest(others, by);
        int below = Wait.partsOfAll(others);
        int divisor = Wait.greatestDivisor(above, below);
        return (what == 0 ? above : below) / divisor;
    }

    public int howMany(int others) {
        if (!Wait.isOthers(others)) {
            return OUTSIDE;
        }
        return Wait.likeliest(others);
    }

    // ---- what is seen

    public int see(int one, int other, boolean likes) {
        if (!crowd.has(one) || !crowd.has(other)) {
            return UNKNOWN;
        }
        if (crowd.people[one].side == crowd.people[other].side) {
            return STATE;
        }
        return crowd.seen.add(one, other, likes) ? crowd.seen.size : FULL;
    }

    public int forget() {
        int was = crowd.seen.size;
        crowd.seen.clear();
        return was;
    }

    public int seasons(int times, int seed, int what) {
        if (!isWithin(times, 1, 60) || seed < 0 || !isWithin(what, 0, 2)) {
            return OUTSIDE;
        }
        if (crowd.isEmpty()) {
            return STATE;
        }
        long now = seed;
        int often = 0;
        int apart = 0;
        for (int time = 0; time < times; time++) {
            now = Draw.next(now);
            Person one = crowd.people[Draw.pick(now, crowd.first)];
            now = Draw.next(now);
            Person other = crowd.people[crowd.first + Draw.pick(now, crowd.size - crowd.first)];
            if (one.likes(other) && other.likes(one)) {
                often++;
                apart += Math.abs(one.worth - other.worth);
            }
        }
        if (what == 2) {
            return (int) now;
        }
        return what == 0 ? often : apart;
    }

    // ---- what is told of all

    public int image() {
        if (crowd.isEmpty()) {
            return STATE;
        }
        kept.copyFrom(crowd);
        imageKept = true;
        return kept.days;
    }

    public int restore() {
        if (!imageKept) {
            return STATE;
        }
        crowd.copyFrom(kept);
        return crowd.days;
    }

    public int count(int what) {
        if (what == 13) {
            return page.length;
        }
        if (what == 14) {
            return seasRead;
        }
        return crowd.tell(what);
    }

    public long digest() {
        long h = 1123;
        for (int person = 0; person < crowd.size; person++) {
            for (int what = 0; what <= LAST_PERSON_TELLING; what++) {
                h = 31 * h + person(person, what);
            }
        }
        if (!crowd.isEmpty()) {
            h = foldLasting(h);
            h = 31 * h + crowd.mutualTwos();
            h = 31 * h + trial.bestLimit(crowd, 3, 0);
            h = 31 * h + trial.bestLimit(crowd, 3, 1);
        }
        for (int place = 0; place < page.length; place++) {
            h = 31 * h + page.letterAt(place);
        }
        for (int what = 0; what <= LAST_COUNT; what++) {
            h = 31 * h + count(what);
        }
        return h;
    }

    /** The rows are worked out once for all six tellings: that is the dearest part of a digest. */
    private long foldLasting(long start) {
        lastingRows.workOut(crowd);
        long h = 31 * start + lastingRows.tell(0);
        h = 31 * h + lastingRows.tell(1);
        for (int what = FIRST_MATE; what <= LAST_MATE; what++) {
            h = 31 * h + lastingRows.tell(what);
        }
        return h;
    }

    private static boolean isWithin(int number, int least, int most) {
        return number >= least && number <= most;
    }

    private static boolean isLimit(int limit) {
        return isWithin(limit, 1, GREATEST_LIMIT);
    }

    /** The KINDS; their numbers are those of the document. */
    private enum Kind {
        ONE(0, 'o'), EAGER(1, 'e'), HASTY(2, 'h'), SHY(3, 's'), GONE(4, 'g');

        private static final Kind[] ALL = values();

        final int number;
        final int letter;

        Kind(int number, int letter) {
            this.number = number;
            this.letter = letter;
        }

        static boolean isNumber(int number) {
            return number >= 0 && number < ALL.length;
        }

        static boolean isLetter(int code) {
            for (int i = 0; i < ALL.length; i++) {
                if (ALL[i].letter == code) {
                    return true;
                }
            }
            return false;
        }

        /** All are ONES, so a letter of no kind is answered by ONE and never by null. */
        static Kind ofLetter(int code) {
            for (int i = 0; i < ALL.length; i++) {
                if (ALL[i].letter == code) {
                    return ALL[i];
                }
            }
            return ONE;
        }

        boolean isA(int wanted) {
            return wanted == ONE.number || wanted == number
                || (wanted == SHY.number && this == GONE);
        }
    }

    /** THE PAGE: letters that may become a SEA. */
    private static final class Page {
        /** A person is a letter and three digits; a separator follows. */
        private static final int STEP = 5;
        private static final int FLATTERY_PLACE = 2;
        private static final int SEPARATOR_PLACE = 4;

        private final int[] letters = new int[MOST_LETTERS];
        int length;

        boolean add(int code) {
            if (length >= letters.length) {
                return false;
            }
            letters[length] = code;
            length++;
            return true;
        }

        void clear() {
            length = 0;
        }

        int letterAt(int place) {
            return place >= 0 && place < length ? letters[place] : NONE;
        }

        int digitAt(int place) {
            return letterAt(place) - '0';
        }

        boolean endsSideAt(int place) {
            return letterAt(place) == ';';
        }

        int firstFault() {
            boolean secondSide = false;
            int onSide = 0;
            for (int place = 0; place < length; place++) {
                int within = place % STEP;
                if (within != SEPARATOR_PLACE) {
                    if (!fitsPerson(within, letters[place])) {
                        return place;
                    }
                    continue;
                }
                onSide++;
                if (endsSideAt(place) && !secondSide) {
                    secondSide = true;
                    onSide = 0;
                } else if (letters[place] != ',' || onSide >= MOST_ON_A_SIDE) {
                    return place;
                }
            }
            return length;
        }

        boolean isSea() {
            return firstFault() == length && length % STEP == SEPARATOR_PLACE && hasTwoSides();
        }

        private boolean hasTwoSides() {
            for (int place = SEPARATOR_PLACE; place < length; place += STEP) {
                if (endsSideAt(place)) {
                    return true;
                }
            }
            return false;
        }

        private static boolean fitsPerson(int within, int code) {
            if (within == 0) {
                return Kind.isLetter(code);
            }
            int greatest = within == FLATTERY_PLACE ? GREATEST_FLATTERY : 9;
            return isWithin(code - '0', 0, greatest);
        }
    }

    /** One of the people, with all that he did. */
    private static final class Person {
        final int number;
        final int bit;
        Kind kind = Kind.ONE;
        int side;
        int worth;
        int flattery;
        int choosy;
        int rights;
        int lefts;
        int leftsInRow;
        int rightsToday;
        int partner = NONE;

        Person(int number) {
            this.number = number;
            this.bit = 1 << number;
        }

        void copyFrom(Person other) {
            kind = other.kind;
            side = other.side;
            worth = other.worth;
            flattery = other.flattery;
            choosy = other.choosy;
            rights = other.rights;
            lefts = other.lefts;
            leftsInRow = other.leftsInRow;
            rightsToday = other.rightsToday;
            partner = other.partner;
        }

        void clearShown() {
            rights = 0;
            lefts = 0;
            leftsInRow = 0;
            rightsToday = 0;
        }

        int picture() {
            return worth + flattery;
        }

        boolean isTaken() {
            return partner != NONE;
        }

        boolean isGone() {
            return kind == Kind.GONE;
        }

        boolean isFree() {
            return !isTaken() && !isGone();
        }

        boolean isCoupleWith(Person other) {
            return partner == other.number;
        }

        boolean isContentWith(int amount) {
            return wouldBeContent(choosy, amount);
        }

        /** Whether he would be content with so much, were he so choosy. */
        boolean wouldBeContent(int supposed, int amount) {
            return kind == Kind.EAGER || amount >= supposed;
        }

        boolean likes(Person other) {
            return side != other.side && wouldBeContent(choosy, other.picture());
        }

        boolean wentRightOn(Person other) {
            return (rights & other.bit) != 0;
        }

        boolean wasShown(Person other) {
            return ((rights | lefts) & other.bit) != 0;
        }

        boolean isMatchOf(Person other) {
            return wentRightOn(other) && other.wentRightOn(this);
        }

        boolean canBeShown(Person other) {
            return side != other.side && isFree() && !other.isTaken() && !wasShown(other);
        }

        boolean goesRightOn(Person other, int limit) {
            if (!likes(other) || rightsToday >= limit) {
                return false;
            }
            if (kind == Kind.HASTY && isTurnToHasten()) {
                return false;
            }
            return !kind.isA(Kind.SHY.number) || other.wentRightOn(this);
        }

        /** Behind two LEFTS in a row, not behind three or four, but behind five, and so on. */
        private boolean isTurnToHasten() {
            return leftsInRow % 3 == 2;
        }

        void goRightOn(Person other) {
            rights |= other.bit;
            leftsInRow = 0;
            rightsToday++;
        }

        void goLeftOn(Person other) {
            lefts |= other.bit;
            leftsInRow++;
        }

        /** Has gone LEFT, though he went RIGHT: that counts for nothing else. */
        void turnLeftOn(Person other) {
            rights &= ~other.bit;
            lefts |= other.bit;
        }

        void takeBack(Person other) {
            rights &= ~other.bit;
            lefts &= ~other.bit;
        }
    }

    /** What is SEEN of people: numbers alone, so that an IMAGE can keep them. */
    private static final class Seen {
        private final int[] ones = new int[MOST_SEEN];
        private final int[] others = new int[MOST_SEEN];
        private final boolean[] liked = new boolean[MOST_SEEN];
        int size;

        boolean add(int one, int other, boolean likes) {
            if (size >= MOST_SEEN) {
                return false;
            }
            ones[size] = one;
            others[size] = other;
            liked[size] = likes;
            size++;
            return true;
        }

        void clear() {
            size = 0;
        }

        void copyFrom(Seen other) {
            size = other.size;
            for (int i = 0; i < MOST_SEEN; i++) {
                ones[i] = other.ones[i];
                others[i] = other.others[i];
                liked[i] = other.liked[i];
            }
        }

        int choosiesOf(Person one, Person[] people) {
            int bits = 0;
            for (int choosy = 0; choosy <= GREATEST_CHOOSY; choosy++) {
                if (isSoFor(one, choosy, people)) {
                    bits |= 1 << choosy;
                }
            }
            return bits;
        }

        private boolean isSoFor(Person one, int choosy, Person[] people) {
            for (int i = 0; i < size; i++) {
                int other = others[i];
                if (ones[i] == one.number && other >= 0 && other < people.length
                        && one.wouldBeContent(choosy, people[other].picture()) != liked[i]) {
                    return false;
                }
            }
            return true;
        }
    }

    /** The PEOPLE of THE SEA and all that was; nobody in it means that there is no SEA. */
    private static final class Crowd {
        final Person[] people = new Person[MOST_PEOPLE];
        final Seen seen = new Seen();
        int first;
        int size;
        int limit;
        int days;
        int paid;
        int met;
        int rightsInAll;
        int leftsInAll;

        Crowd() {
            for (int number = 0; number < MOST_PEOPLE; number++) {
                people[number] = new Person(number);
            }
        }

        boolean isEmpty() {
            return size == 0;
        }

        boolean has(int number) {
            return number >= 0 && number < size;
        }

        void readFrom(Page page) {
            int side = 0;
            size = 0;
            for (int place = 0; place < page.length && size < MOST_PEOPLE; place += Page.STEP) {
                Person one = people[size];
                one.kind = Kind.ofLetter(page.letterAt(place));
                one.side = side;
                one.worth = page.digitAt(place + 1);
                one.flattery = page.digitAt(place + 2);
                one.choosy = page.digitAt(place + 3);
                one.partner = NONE;
                one.clearShown();
                size++;
                if (side == 0) {
                    first = size;
                }
                if (page.endsSideAt(place + Page.SEPARATOR_PLACE)) {
                    side = 1;
                }
            }
            clearHistory();
        }

        private void clearHistory() {
            limit = GREATEST_LIMIT;
            days = 0;
            paid = 0;
            met = 0;
            rightsInAll = 0;
            leftsInAll = 0;
            seen.clear();
        }

        void copyFrom(Crowd other) {
            for (int number = 0; number < MOST_PEOPLE; number++) {
                people[number].copyFrom(other.people[number]);
            }
            seen.copyFrom(other.seen);
            first = other.first;
            size = other.size;
            limit = other.limit;
            days = other.days;
            paid = other.paid;
            met = other.met;
            rightsInAll = other.rightsInAll;
            leftsInAll = other.leftsInAll;
        }

        void clearShown() {
            for (int number = 0; number < size; number++) {
                people[number].clearShown();
            }
        }

        void startDay() {
            for (int number = 0; number < size; number++) {
                people[number].rightsToday = 0;
            }
        }

        /** One is SHOWN another one: whether he goes RIGHT. */
        boolean present(Person one, Person other) {
            if (one.goesRightOn(other, limit)) {
                one.goRightOn(other);
                rightsInAll++;
                return true;
            }
            one.goLeftOn(other);
            leftsInAll++;
            return false;
        }

        /**
         * All people into the row: by number, or by PICTURE, the greatest first. They come by
         * number, and pass only those whose PICTURE is less: so of like ones the lesser number is
         * ahead.
         */
        void putInOrder(int[] row, boolean byPicture) {
            for (int number = 0; number < size && number < row.length; number++) {
                int place = number;
                while (byPicture && place > 0
                        && people[number].picture() > people[row[place - 1]].picture()) {
                    row[place] = row[place - 1];
                    place--;
                }
                row[place] = number;
            }
        }

        int tellOf(Person one, int what) {
            switch (what) {
                case 0: return one.kind.number;
                case 1: return one.worth;
                case 2: return one.flattery;
                case 3: return one.choosy;
                case 4: return one.side;
                case 5: return one.isTaken() ? 1 : one.isGone() ? 2 : 0;
                case 6: return one.partner;
                case 7: return likedBy(one);
                case 8: return one.rights;
                case 9: return one.lefts;
                case 10: return matchesOf(one);
                case 11: return one.leftsInRow;
                case 12: return one.rightsToday;
                case 13: return seen.choosiesOf(one, people);
                case 14: return toAsk(one);
                default: return OUTSIDE;
            }
        }

        int tell(int what) {
            switch (what) {
                case 0: return first;
                case 1: return size - first;
                case 2: return freeOnes();
                case 3: return couples();
                case 4: return goneOnes();
                case 5: return openMatches();
                case 6: return rightsInAll;
                case 7: return leftsInAll;
                case 8: return limit;
                case 9: return days;
                case 10: return paid;
                case 11: return met;
                case 12: return seen.size;
                default: return OUTSIDE;
            }
        }

        private int likedBy(Person one) {
            int bits = 0;
            for (int number = 0; number < size; number++) {
                if (one.likes(people[number])) {
                    bits |= people[number].bit;
                }
            }
            return bits;
        }

        private int matchesOf(Person one) {
            int bits = 0;
            for (int number = 0; number < size; number++) {
                if (one.isMatchOf(people[number])) {
                    bits |= people[number].bit;
                }
            }
            return bits;
        }

        private int freeOnes() {
            int free = 0;
            for (int number = 0; number < size; number++) {
                free += people[number].isFree() ? 1 : 0;
            }
            return free;
        }

        private int goneOnes() {
            int gone = 0;
            for (int number = 0; number < size; number++) {
                gone += people[number].isGone() ? 1 : 0;
            }
            return gone;
        }

        private int couples() {
            int couples = 0;
            for (int number = 0; number < first; number++) {
                couples += people[number].isTaken() ? 1 : 0;
            }
            return couples;
        }

        /** MATCHES of two who are no COUPLE; one of them may be taken by another one. */
        int openMatches() {
            int matches = 0;
            for (int number = 0; number < first; number++) {
                Person one = people[number];
                int ownCouple = one.isTaken() ? 1 << one.partner : 0;
                matches += Integer.bitCount(matchesOf(one) & ~ownCouple);
            }
            return matches;
        }

        /** The FREE ones of the other SIDE, as bits, whom a FREE one LIKES and who LIKE him. */
        int mutualOf(Person one) {
            int bits = 0;
            for (int number = 0; number < size && one.isFree(); number++) {
                Person other = people[number];
                if (other.isFree() && one.likes(other) && other.likes(one)) {
                    bits |= other.bit;
                }
            }
            return bits;
        }

        int mutualTwos() {
            int twos = 0;
            for (int number = 0; number < first; number++) {
                twos += Integer.bitCount(mutualOf(people[number]));
            }
            return twos;
        }

        private int toAsk(Person one) {
            int choosies = seen.choosiesOf(one, people);
            int ask = NONE;
            int fewest = Integer.bitCount(choosies) + 1;
            for (int number = 0; number < size && choosies != 0; number++) {
                Person other = people[number];
                int left = leftAtWorst(one, choosies, other.picture());
                if (other.side != one.side && left < fewest) {
                    fewest = left;
                    ask = number;
                }
            }
            return ask;
        }

        private static int leftAtWorst(Person one, int choosies, int picture) {
            int ifLiked = 0;
            int ifNot = 0;
            for (int choosy = 0; choosy <= GREATEST_CHOOSY; choosy++) {
                if ((choosies & (1 << choosy)) == 0) {
                    continue;
                }
                if (one.wouldBeContent(choosy, picture)) {
                    ifLiked++;
                } else {
                    ifNot++;
                }
            }
            return Math.max(ifLiked, ifNot);
        }
    }

    /** COME OF IT: the same people once more, of whom nobody was SHOWN yet. */
    private static final class Trial {
        private static final int SHOWN_A_DAY = 3;

        private final Crowd crowd = new Crowd();
        private final int[] order = new int[MOST_PEOPLE];

        static boolean isDays(int days) {
            return isWithin(days, 1, 8);
        }

        static boolean isOrder(int order) {
            return isWithin(order, 0, 1);
        }

        int bestLimit(Crowd sea, int days, int order) {
            int best = 1;
            int most = matchesAfter(sea, days, 1, order);
            for (int limit = 2; limit <= GREATEST_LIMIT; limit++) {
                int matches = matchesAfter(sea, days, limit, order);
                if (matches > most) {
                    most = matches;
                    best = limit;
                }
            }
            return best;
        }

        int matchesAfter(Crowd sea, int days, int limit, int byOrder) {
            crowd.copyFrom(sea);
            crowd.clearShown();
            crowd.limit = limit;
            crowd.putInOrder(order, byOrder == 1);
            for (int day = 0; day < days; day++) {
                crowd.startDay();
                for (int number = 0; number < crowd.size; number++) {
                    showNextTo(crowd.people[number]);
                }
            }
            return crowd.openMatches();
        }

        private void showNextTo(Person one) {
            int shown = 0;
            for (int place = 0; place < crowd.size && shown < SHOWN_A_DAY; place++) {
                Person other = crowd.people[order[place]];
                if (one.canBeShown(other)) {
                    crowd.present(one, other);
                    shown++;
                }
            }
        }
    }

    /** LASTING: every row of COUPLES is tried, and those that last are counted. */
    private static final class LastingRows {
        private final int[] order = new int[MOST_PEOPLE];
        private final int[] rank = new int[MOST_PEOPLE];
        private final int[] mutual = new int[MOST_PEOPLE];
        private final int[] mate = new int[MOST_PEOPLE];
        private final int[] told = new int[MOST_ON_A_SIDE];
        private int rows;

        static boolean canTell(int what) {
            return what == 0 || what == 1 || isWithin(what, FIRST_MATE, LAST_MATE);
        }

        int tell(int what) {
            if (what == 0) {
                return rows;
            }
            if (what == 1) {
                return toldCouples();
            }
            int place = what - FIRST_MATE;
            return place >= 0 && place < told.length ? told[place] : OUTSIDE;
        }

        private int toldCouples() {
            int couples = 0;
            for (int place = 0; place < told.length; place++) {
                couples += told[place] != NONE ? 1 : 0;
            }
            return couples;
        }

        void workOut(Crowd crowd) {
            rows = 0;
            for (int place = 0; place < told.length; place++) {
                told[place] = NONE;
            }
            crowd.putInOrder(order, true);
            for (int place = 0; place < crowd.size; place++) {
                rank[order[place]] = place;
                mutual[place] = crowd.mutualOf(crowd.people[place]);
                mate[place] = NONE;
            }
            tryFrom(0, crowd.first, crowd.size);
        }

        /**
         * Whom the one at this place has is tried from the most preferred one to nobody: so the
         * first row that lasts is the one that the first SIDE PREFERS.
         */
        private void tryFrom(int one, int first, int size) {
            if (one >= first || one >= MOST_ON_A_SIDE) {
                if (lasts(first, size)) {
                    keepRow(first);
                }
                return;
            }
            for (int place = 0; place < size; place++) {
                int other = order[place];
                if (isMutual(one, other) && mate[other] == NONE) {
                    mate[one] = other;
                    mate[other] = one;
                    tryFrom(one + 1, first, size);
                    mate[one] = NONE;
                    mate[other] = NONE;
                }
            }
            tryFrom(one + 1, first, size);
        }

        private boolean lasts(int first, int size) {
            for (int one = 0; one < first; one++) {
                for (int other = first; other < size; other++) {
                    if (isMutual(one, other) && wants(one, other) && wants(other, one)) {
                        return false;
                    }
                }
            }
            return true;
        }

        private void keepRow(int first) {
            for (int place = 0; place < first && place < told.length && rows == 0; place++) {
                told[place] = mate[place];
            }
            rows++;
        }

        private boolean isMutual(int one, int other) {
            return (mutual[one] & (1 << other)) != 0;
        }

        private boolean wants(int one, int other) {
            return mate[one] == NONE || rank[other] < rank[mate[one]];
        }
    }

    /** WAIT: all is counted in parts of which one other is PARTS, so that every share is whole. */
    private static final class Wait {
        private static final int MOST_OTHERS = 8;
        /** 1 to 7 all divide it. */
        private static final int PARTS = 420;

        static boolean isOthers(int others) {
            return isWithin(others, 2, MOST_OTHERS);
        }

        static int partsOfAll(int others) {
            return others * PARTS;
        }

        /**
         * The best one is taken if he comes behind those let go by, and the best of all ahead of
         * him is among those: if he has i ahead, that is so by times out of i.
         */
        static int partsOfBest(int others, int by) {
            if (by == 0) {
                return PARTS;
            }
            int parts = 0;
            for (int ahead = 1; ahead < others; ahead++) {
                parts += ahead >= by ? by * PARTS / ahead : 0;
            }
            return parts;
        }

        static int likeliest(int others) {
            int likeliest = 0;
            for (int by = 1; by < others; by++) {
                if (partsOfBest(others, by) > partsOfBest(others, likeliest)) {
                    likeliest = by;
                }
            }
            return likeliest;
        }

        static int greatestDivisor(int above, int below) {
            int great = below;
            int small = above;
            // each two steps halve the numbers at least, so 32 are plenty
            for (int step = 0; step < 32 && small != 0; step++) {
                int rest = great % small;
                great = small;
                small = rest;
            }
            return great == 0 ? 1 : great;
        }
    }

    /** DRAWS by a SEED. */
    private static final class Draw {
        static long next(long seed) {
            return (1103515245L * seed + 12345L) & 0x7fffffffL;
        }

        static int pick(long seed, int among) {
            return among > 0 ? (int) (seed / 65536L % among) : 0;
        }
    }
}
