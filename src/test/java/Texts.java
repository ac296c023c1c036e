/** Texts and objects that several tests of edges begin with. */
final class Texts {
    /** Ring 3 gets faster by 1 a degree; the pairs are a circle of three and one more. */
    static final String FOUR =
            "ring 100 0 0;ring 90 0 2;ring 80 0 0;ring 95 10 0;pair 0 1;pair 1 2;pair 0 2;pair 3 0;";
    /** One pair of bit 1 and margin 49, whose first ring alone is noisy: a draw for each reading. */
    static final String ONE_DRAW = "ring 100 0 1;ring 50 0 0;pair 0 1;repeat 1;";

    private Texts() {
    }

    /** Eight rings of bases 80, 70 .. and the first so many of their pairs 0 1, 0 2 .. 0 7, 1 2 .. */
    static String eight(int pairs, String settings) {
        StringBuilder text = new StringBuilder();
        for (int i = 0; i < 8; i++) {
            text.append("ring").append(80 - 10 * i).append(" 0 0;");
        }
        int left = pairs;
        for (int a = 0; a < 8; a++) {
            for (int b = a + 1; b < 8 && left > 0; b++, left--) {
                text.append("pair").append(a).append(' ').append(b).append(';');
            }
        }
        return text.append(settings).toString();
    }

    /** Whether bits of some pairs of the eight rings, those in a set, fit an order of these. */
    static boolean hasOrder(int bits, int pairs) {
        int gone = 0;
        for (int round = 0; round < 8; round++) {
            int beaten = 0;
            for (int a = 0, p = 0; a < 8; a++) {
                for (int b = a + 1; b < 8; b++, p++) {
                    int front = (bits >> p & 1) == 1 ? a : b;
                    boolean counts = (pairs >> p & 1) == 1 && (gone >> front & 1) == 0;
                    beaten |= counts ? 1 << (a + b - front) : 0;
                }
            }
            gone |= ~beaten & 255;
        }
        return gone == 255;
    }

    static SlipSecret none() {
        return new SlipSecret();
    }

    /** Rings and pairs, nothing else. */
    static SlipSecret four() {
        return Check.told(FOUR);
    }

    /** Something of all: a fault, a tape, settings, a worn ring, an enrolment, bits heard, weights. */
    static SlipSecret rich() {
        SlipSecret x = Check.told(FOUR + "guard 4;heats 0 21;");
        Check.tell(x, "all;foo;");
        Check.feed(x, "guard 7;");
        x.set(2, 22);
        x.wear(3, 0, 101);
        x.hear(3);
        x.wear(3, 0, 96);
        x.set(3, 1);
        x.set(0, 6);
        x.hear(1);
        x.train(2);
        x.enrol(1);
        x.turn(2);
        return x;
    }

    /** A bit heard, a weight, and an enrolment with a bit turned; no fault, and an empty tape. */
    static SlipSecret busy() {
        SlipSecret x = four();
        x.wear(3, 0, 101);
        x.hear(3);
        x.train(1);
        x.enrol(1);
        x.turn(0);
        return x;
    }

    /** As rich, with a past that is full. */
    static SlipSecret full() {
        SlipSecret x = rich();
        for (int i = 0; i < 12; i++) {
            x.set(0, 10 + i);
        }
        return x;
    }
}
