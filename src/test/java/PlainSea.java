import java.util.ArrayList;
import java.util.List;
import java.util.regex.Matcher;
import java.util.regex.Pattern;

/**
 * The document once more, told in another way (patterns, lists, proposals), to compare answers
 * with. It has all calls but waiting() and howMany(), which WouldBeTest tries in every order.
 */
final class PlainSea {
    static final int NONE = -1;
    static final int UNKNOWN = -101;
    static final int OUTSIDE = -102;
    static final int STATE = -103;
    static final int FULL = -104;

    private static final String PERSON = "[oehsg][0-9][0-3][0-9]";
    private static final String SIDE = PERSON + "(," + PERSON + "){0,3}";
    private static final Pattern SEA = Pattern.compile(SIDE + ";" + SIDE);
    private static final int EAGER = 1;
    private static final int HASTY = 2;
    private static final int SHY = 3;
    private static final int GONE = 4;

    private String page = "";
    private int read;
    private Life now;
    private Life image;

    public int letter(int code) {
        if (code < 32 || code > 126) {
            return OUTSIDE;
        }
        if (page.length() == 41) {
            return FULL;
        }
        page += (char) code;
        return page.length();
    }

    public int blank() {
        int had = page.length();
        page = "";
        return had;
    }

    /** A text that a SEA may begin with is one at whose end the pattern asks for more, or is met. */
    public int fault() {
        for (int end = 1; end <= page.length(); end++) {
            Matcher matcher = SEA.matcher(page.substring(0, end));
            if (!matcher.matches() && !matcher.hitEnd()) {
                return end - 1;
            }
        }
        return page.length();
    }

    public int sea() {
        if (!SEA.matcher(page).matches()) {
            return STATE;
        }
        now = new Life(page);
        image = null;
        page = "";
        read++;
        return now.people;
    }

    public int person(int person, int what) {
        if (isUnknown(person)) {
            return UNKNOWN;
        }
        if (what < 0 || what > 14) {
            return OUTSIDE;
        }
        int[] told = {now.kind[person], now.worth[person], now.flattery[person], now.choosy[person],
            person < now.first ? 0 : 1,
            now.mate[person] != NONE ? 1 : now.kind[person] == GONE ? 2 : 0, now.mate[person],
            now.liked(person), now.wentBits(person, Life.RIGHT), now.wentBits(person, Life.LEFT),
            now.matches(person), now.row[person], now.today[person],
            now.choosies(person), now.ask(person)};
        return told[what];
    }

    public int as(int person, int kind) {
        if (isUnknown(person)) {
            return UNKNOWN;
        }
        if (kind < 0 || kind > 4) {
            return OUTSIDE;
        }
        String[] all = {"0", "01", "02", "03", "034"};
        return all[now.kind[person]].indexOf('0' + kind) >= 0 ? person : NONE;
    }

    public int choose(int person, int choosy) {
        if (isUnknown(person)) {
            return UNKNOWN;
        }
        if (choosy < 0 || choosy > 9) {
            return OUTSIDE;
        }
        int was = now.choosy[person];
        now.choosy[person] = choosy;
        return was;
    }

    public int paint(int person, int flattery) {
        if (isUnknown(person)) {
            return UNKNOWN;
        }
        if (flattery < 0 || flattery > 3) {
            return OUTSIDE;
        }
        int was = now.flattery[person];
        now.flattery[person] = flattery;
        return was;
    }

    public int limit(int limit) {
        if (limit < 1 || limit > 9) {
            return OUTSIDE;
        }
        if (now == null) {
            return STATE;
        }
        int was = now.limit;
        now.limit = limit;
        return was;
    }

    public int show(int one, int other) {
        if (isUnknown(one) || isUnknown(other)) {
            return UNKNOWN;
        }
        if (now.ofOneSide(one, other) || now.went[one][other] != 0 || now.kind[one] == GONE
                || now.mate[one] != NONE || now.mate[other] != NONE) {
            return STATE;
        }
        now.show(one, other);
        if (now.went[one][other] == Life.LEFT) {
            return 0;
        }
        return now.went[other][one] == Life.RIGHT ? 2 : 1;
    }

    public int back(int one, int other) {
        if (isUnknown(one) || isUnknown(other)) {
            return UNKNOWN;
        }
        if (now.went[one][other] == 0 || now.mate[one] == other) {
            return STATE;
        }
        int was = now.went[one][other];
        now.went[one][other] = 0;
        now.paid++;
        return was == Life.RIGHT ? 1 : 0;
    }

    public int day() {
        if (now == null) {
            return STATE;
        }
        if (now.days == 99) {
            return FULL;
        }
        now.today = new int[now.people];
        return ++now.days;
    }

    public int meet(int one, int other) {
        if (isUnknown(one) || isUnknown(other)) {
            return UNKNOWN;
        }
        boolean match = (now.matches(one) >> other & 1) == 1;
        if (!match || now.mate[one] != NONE || now.mate[other] != NONE) {
            return STATE;
        }
        now.met++;
        boolean content = (now.kind[one] == EAGER || now.worth[other] >= now.choosy[one])
            && (now.kind[other] == EAGER || now.worth[one] >= now.choosy[other]);
        if (content) {
            now.mate[one] = other;
            now.mate[other] = one;
            return 1;
        }
        now.turnLeft(one, other);
        return 0;
    }

    public int part(int person) {
        if (isUnknown(person)) {
            return UNKNOWN;
        }
        int mate = now.mate[person];
        if (mate == NONE) {
            return STATE;
        }
        now.mate[person] = NONE;
        now.mate[mate] = NONE;
        now.turnLeft(person, mate);
        return mate;
    }

    public int lasting(int what) {
        if (what < 0 || what > 13 || (what > 1 && what < 10)) {
            return OUTSIDE;
        }
        if (now == null) {
            return STATE;
        }
        // both SIDES are ordered alike by all of the other one: so there is no second row
        if (what == 0) {
            return 1;
        }
        int[] mates = now.proposed();
        if (what >= 10) {
            return what - 10 < now.first ? mates[what - 10] : NONE;
        }
        int couples = 0;
        for (int one = 0; one < now.first; one++) {
            couples += mates[one] == NONE ? 0 : 1;
        }
        return couples;
    }

    public int mutual() {
        if (now == null) {
            return STATE;
        }
        int twos = 0;
        for (int one = 0; one < now.first; one++) {
            for (int other = now.first; other < now.people; other++) {
                twos += now.fit(one, other) ? 1 : 0;
            }
        }
        return twos;
    }

    public int comes(int days, int limit, int order) {
        if (days < 1 || days > 8 || limit < 1 || limit > 9 || order < 0 || order > 1) {
            return OUTSIDE;
        }
        return now == null ? STATE : now.comes(days, limit, order);
    }

    public int best(int days, int order) {
        if (days < 1 || days > 8 || order < 0 || order > 1) {
            return OUTSIDE;
        }
        if (now == null) {
            return STATE;
        }
        int best = 9;
        for (int limit = 8; limit >= 1; limit--) {
            best = now.comes(days, limit, order) >= now.comes(days, best, order) ? limit : best;
        }
        return best;
    }

    public int see(int one, int other, boolean likes) {
        if (isUnknown(one) || isUnknown(other)) {
            return UNKNOWN;
        }
        if (now.ofOneSide(one, other)) {
            return STATE;
        }
        if (now.seen.size() == 8) {
            return FULL;
        }
        now.seen.add(new int[] {one, other, likes ? 1 : 0});
        return now.seen.size();
    }

    public int forget() {
        int was = now == null ? 0 : now.seen.size();
        if (now != null) {
            now.seen.clear();
        }
        return was;
    }

    public int seasons(int times, int seed, int what) {
        if (times < 1 || times > 60 || seed < 0 || what < 0 || what > 2) {
            return OUTSIDE;
        }
        if (now == null) {
            return STATE;
        }
        int draw = seed;
        int often = 0;
        int apart = 0;
        for (int time = 0; time < times; time++) {
            // an int's wrap-around keeps the last 32 bits, of which 31 are the rest
            draw = draw * 1103515245 + 12345 & Integer.MAX_VALUE;
            int one = (draw >> 16) % now.first;
            draw = draw * 1103515245 + 12345 & Integer.MAX_VALUE;
            int other = now.first + (draw >> 16) % (now.people - now.first);
            if (now.likes(one, other) && now.likes(other, one)) {
                often++;
                apart += Math.abs(now.worth[one] - now.worth[other]);
            }
        }
        return new int[] {often, apart, draw}[what];
    }

    public int image() {
        if (now == null) {
            return STATE;
        }
        image = new Life(now);
        return image.days;
    }

    public int restore() {
        if (image == null) {
            return STATE;
        }
        now = new Life(image);
        return now.days;
    }

    public int count(int what) {
        if (what < 0 || what > 14) {
            return OUTSIDE;
        }
        if (now == null) {
            return what == 13 ? page.length() : 0;
        }
        int free = 0;
        int taken = 0;
        int gone = 0;
        int matches = 0;
        for (int one = 0; one < now.people; one++) {
            free += now.isFree(one) ? 1 : 0;
            taken += now.mate[one] != NONE ? 1 : 0;
            gone += now.kind[one] == GONE ? 1 : 0;
            for (int other = now.first; one < now.first && other < now.people; other++) {
                boolean match = (now.matches(one) >> other & 1) == 1;
                matches += match && now.mate[one] != other ? 1 : 0;
            }
        }
        int[] told = {now.first, now.people - now.first, free, taken / 2, gone, matches, now.rights,
            now.lefts, now.limit, now.days, now.paid, now.met, now.seen.size(), page.length(), read};
        return told[what];
    }

    public long digest() {
        List<Integer> numbers = new ArrayList<>();
        for (int person = 0; now != null && person < now.people; person++) {
            for (int what = 0; what <= 14; what++) {
                numbers.add(person(person, what));
            }
        }
        if (now != null) {
            for (int what : new int[] {0, 1, 10, 11, 12, 13}) {
                numbers.add(lasting(what));
            }
            numbers.add(mutual());
            numbers.add(best(3, 0));
            numbers.add(best(3, 1));
        }
        page.chars().forEach(numbers::add);
        for (int what = 0; what <= 14; what++) {
            numbers.add(count(what));
        }
        long h = 1123;
        for (int number : numbers) {
            h = 31 * h + number;
        }
        return h;
    }

    private boolean isUnknown(int person) {
        return now == null || person < 0 || person >= now.people;
    }

    /** The PEOPLE, and all that an IMAGE keeps. */
    private static final class Life {
        static final int RIGHT = 1;
        static final int LEFT = 2;

        final int people;
        final int first;
        final int[] kind;
        final int[] worth;
        final int[] flattery;
        final int[] choosy;
        final int[] row;
        final int[] mate;
        final int[][] went;
        final List<int[]> seen = new ArrayList<>();
        int[] today;
        int limit = 9;
        int days;
        int rights;
        int lefts;
        int paid;
        int met;

        Life(String text) {
            String[] all = text.split("[,;]");
            people = all.length;
            first = text.substring(0, text.indexOf(';')).split(",").length;
            kind = new int[people];
            worth = new int[people];
            flattery = new int[people];
            choosy = new int[people];
            row = new int[people];
            today = new int[people];
            mate = new int[people];
            went = new int[people][people];
            for (int one = 0; one < people; one++) {
                kind[one] = "oehsg".indexOf(all[one].charAt(0));
                worth[one] = Character.digit(all[one].charAt(1), 10);
                flattery[one] = Character.digit(all[one].charAt(2), 10);
                choosy[one] = Character.digit(all[one].charAt(3), 10);
                mate[one] = NONE;
            }
        }

        Life(Life other) {
            people = other.people;
            first = other.first;
            kind = other.kind.clone();
            worth = other.worth.clone();
            flattery = other.flattery.clone();
            choosy = other.choosy.clone();
            row = other.row.clone();
            today = other.today.clone();
            mate = other.mate.clone();
            went = new int[people][];
            for (int one = 0; one < people; one++) {
                went[one] = other.went[one].clone();
            }
            seen.addAll(other.seen);
            limit = other.limit;
            days = other.days;
            rights = other.rights;
            lefts = other.lefts;
            paid = other.paid;
            met = other.met;
        }

        boolean ofOneSide(int one, int other) {
            return one < first == other < first;
        }

        boolean isFree(int one) {
            return mate[one] == NONE && kind[one] != GONE;
        }

        boolean likes(int one, int other) {
            return !ofOneSide(one, other)
                && (kind[one] == EAGER || worth[other] + flattery[other] >= choosy[one]);
        }

        boolean fit(int one, int other) {
            return isFree(one) && isFree(other) && likes(one, other) && likes(other, one);
        }

        /** Greater is preferred. */
        int value(int one) {
            return 10 * (worth[one] + flattery[one]) - one;
        }

        int liked(int one) {
            int bits = 0;
            for (int other = 0; other < people; other++) {
                bits += likes(one, other) ? 1 << other : 0;
            }
            return bits;
        }

        int wentBits(int one, int how) {
            int bits = 0;
            for (int other = 0; other < people; other++) {
                bits += went[one][other] == how ? 1 << other : 0;
            }
            return bits;
        }

        int matches(int one) {
            int bits = 0;
            for (int other = 0; other < people; other++) {
                bits += went[one][other] == RIGHT && went[other][one] == RIGHT ? 1 << other : 0;
            }
            return bits;
        }

        void show(int one, int other) {
            boolean right = likes(one, other) && today[one] < limit;
            if (kind[one] == HASTY && row[one] >= 2 && (row[one] - 2) % 3 == 0) {
                right = false;
            }
            if (kind[one] == SHY && went[other][one] != RIGHT) {
                right = false;
            }
            went[one][other] = right ? RIGHT : LEFT;
            row[one] = right ? 0 : row[one] + 1;
            today[one] += right ? 1 : 0;
            rights += right ? 1 : 0;
            lefts += right ? 0 : 1;
        }

        void turnLeft(int one, int other) {
            went[one][other] = LEFT;
            went[other][one] = LEFT;
        }

        /** Those of the first SIDE ask whom they prefer; the second SIDE keeps the best that asks. */
        int[] proposed() {
            int[] mates = new int[people];
            java.util.Arrays.fill(mates, NONE);
            boolean[][] asked = new boolean[people][people];
            for (int one = 0; one < first; one++) {
                int asking = one;
                while (asking != NONE) {
                    int wanted = mostPreferred(asking, asked[asking]);
                    if (wanted == NONE) {
                        break;
                    }
                    asked[asking][wanted] = true;
                    int had = mates[wanted];
                    if (had == NONE || value(asking) > value(had)) {
                        mates[wanted] = asking;
                        mates[asking] = wanted;
                        asking = had;
                        if (had != NONE) {
                            mates[had] = NONE;
                        }
                    }
                }
            }
            return mates;
        }

        private int mostPreferred(int one, boolean[] asked) {
            int wanted = NONE;
            for (int other = first; other < people; other++) {
                if (fit(one, other) && !asked[other]
                        && (wanted == NONE || value(other) > value(wanted))) {
                    wanted = other;
                }
            }
            return wanted;
        }

        int comes(int days, int limit, int order) {
            Life would = new Life(this);
            would.limit = limit;
            for (int one = 0; one < people; one++) {
                would.went[one] = new int[people];
                would.row[one] = 0;
            }
            for (int day = 0; day < days; day++) {
                would.today = new int[people];
                for (int one = 0; one < people; one++) {
                    would.showThree(one, order);
                }
            }
            int matches = 0;
            for (int one = 0; one < first; one++) {
                matches += Integer.bitCount(would.matches(one));
            }
            return matches;
        }

        private void showThree(int one, int order) {
            List<Integer> left = new ArrayList<>();
            for (int other = 0; isFree(one) && other < people; other++) {
                if (!ofOneSide(one, other) && mate[other] == NONE && went[one][other] == 0) {
                    left.add(other);
                }
            }
            if (order == 1) {
                left.sort((a, b) -> Integer.compare(value(b), value(a)));
            }
            for (int place = 0; place < Math.min(3, left.size()); place++) {
                show(one, left.get(place));
            }
        }

        int choosies(int one) {
            int bits = 0;
            for (int choosy = 0; choosy <= 9; choosy++) {
                bits += holds(one, choosy) ? 1 << choosy : 0;
            }
            return bits;
        }

        private boolean holds(int one, int choosy) {
            for (int[] thing : seen) {
                int picture = worth[thing[1]] + flattery[thing[1]];
                boolean likes = kind[one] == EAGER || picture >= choosy;
                if (thing[0] == one && likes != (thing[2] == 1)) {
                    return false;
                }
            }
            return true;
        }

        int ask(int one) {
            int could = Integer.bitCount(choosies(one));
            int ask = NONE;
            int fewest = Integer.MAX_VALUE;
            for (int other = people - 1; could > 0 && other >= 0; other--) {
                if (ofOneSide(one, other)) {
                    continue;
                }
                seen.add(new int[] {one, other, 1});
                int liking = Integer.bitCount(choosies(one));
                seen.remove(seen.size() - 1);
                int worst = Math.max(liking, could - liking);
                if (worst <= fewest) {
                    fewest = worst;
                    ask = other;
                }
            }
            return ask;
        }
    }
}
