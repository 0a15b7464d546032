import java.util.Random;

/** Seas, and what people do in them, by a seed: for tests that compare with a plainer reckoning. */
final class RandomSeas {
    private final Random random;

    RandomSeas(long seed) {
        random = new Random(seed);
    }

    int below(int bound) {
        return random.nextInt(bound);
    }

    String text() {
        StringBuilder text = new StringBuilder();
        addSide(text);
        text.append(';');
        addSide(text);
        return text.toString();
    }

    private void addSide(StringBuilder text) {
        int people = 1 + below(4);
        for (int i = 0; i < people; i++) {
            if (i > 0) {
                text.append(',');
            }
            // ones oftener than others, and few are so choosy that nothing comes of it
            text.append("oooehsg".charAt(below(7))).append(below(10)).append(below(4));
            text.append(below(3) == 0 ? below(10) : below(6));
        }
    }

    /** A sea in which some were shown, met, parted, changed. */
    ThumbSea livedIn() {
        ThumbSea x = Check.sea(text());
        int people = x.count(0) + x.count(1);
        int steps = below(60);
        for (int step = 0; step < steps; step++) {
            int one = below(people);
            int other = below(people);
            switch (below(8)) {
                case 0: x.meet(one, other); break;
                case 1: if (below(4) == 0) { x.part(one); } break;
                case 2: x.choose(one, below(10)); break;
                case 3: x.paint(one, below(4)); break;
                case 4: if (below(4) == 0) { x.back(one, other); } break;
                default:
                    x.show(one, other);
                    x.show(other, one);
                    break;
            }
        }
        return x;
    }
}
