/** Edges of promises 12 to 20: what is there, ring by ring, pair by pair, block by block. */
final class EdgesOfAsking {
    private static final int LEAST = Integer.MIN_VALUE;
    private static final int MOST = Integer.MAX_VALUE;

    private EdgesOfAsking() {
    }

    static void all() {
        asked();
        told();
        ring();
        speed();
        rank();
        pair();
        pairNone();
        bit();
        flips();
        odds();
        block();
    }

    private static void asked() {
        Edge.of(Edge.TERMS, "Asked, nothing stays changed.");
        for (Edge.Maker maker : new Edge.Maker[] {Texts::four, Texts::busy, Texts::rich, Texts::full}) {
            SlipSecret x = maker.fresh();
            String first = Edge.look(x);
            Edge.same("a look, and another", first, Edge.look(x));
            SlipSecret y = maker.fresh();
            askMore(y);
            Edge.due("nothing was refused", 0, y.status(0) + y.status(1) + y.status(2));
            Edge.stays("asked", maker, y);
        }
    }

    private static void askMore(SlipSecret x) {
        for (int heat = -40; heat <= 125; heat += 15) {
            x.speed(3, heat);
            x.rank(0, heat);
            x.bit(3, heat);
            x.odds(0, heat, false);
        }
        for (int heard = 0; heard <= 4; heard++) x.curve(heard, heard % 3);
        for (int blocks = 1; blocks <= 28; blocks += 9) x.guardFor(blocks);
        x.flips(3, 0);
        x.block(0, 1);
        x.needs();
        if (x.told(14) >= 0) {
            x.recover(125, 65536, 5);
            x.fails(-40, 1, 60, 1);
            x.safe(125, 2);
            x.range(0);
        }
    }

    private static void told() {
        Edge.of(12, "0 RINGS, 1 PAIRS, 2 STEADY ones, 3 USED ones, 4 BLOCKS, 5 SECRET bits of these, 6 GUARD, 7 LOW, 8 HIGH, 9 ALL, 10 REPEAT, 11 how many can be taken back, 12 bytes of the TAPE, 13 HEARD PAIRS,");
        SlipSecret none = new SlipSecret();
        Edge.row("of nothing", new long[] {0, 0, 0, 0, 0, 0, 0, 20, 20, 0, 3, 0, 0, 0}, none::told);
        SlipSecret most = Check.told(Texts.eight(28, "guard 9;heats -40 125;all;hamming;ring0 0 0;ring0 0 0;"));
        for (int i = 0; i < 28; i++) most.hear(i);
        Check.feed(most, " ".repeat(400));
        Edge.row("of the most", new long[] {10, 28, 28, 28, 4, 16, 9, -40, 125, 1, 0, 12, 400, 28}, most::told);
        most.set(0, 10);
        Edge.due("steady ones without the seven neighbours", 21, most.told(2));
        Edge.due("used ones with them", 28, most.told(3));
        most.set(3, 0);
        Edge.due("used ones", 21, most.told(3));
        Edge.due("blocks", 3, most.told(4));
        Edge.due("their bits", 12, most.told(5));
        for (int what : new int[] {-1, 18, LEAST, MOST}) {
            Edge.refused("what " + what, Edge.ARGUMENT, Texts::rich, x -> x.told(what));
        }
        Edge.of(12, "14 ENROLLED PAIRS (NONE: nothing is), 15 SECRET bits of what is ENROLLED (NONE), 16 its SECRET (NONE), 17 its CHECK (NONE).");
        Edge.row("nothing", new long[] {-1, -1, -1, -1}, i -> none.told(14 + i));
        SlipSecret x = Texts.four();
        Edge.row("nothing yet", new long[] {-1, -1, -1, -1}, i -> x.told(14 + i));
        x.enrol(0);
        Edge.row("a secret of 0", new long[] {3, 1, 0, 0}, i -> x.told(14 + i));
        x.enrol(1);
        Edge.row("a secret of 1", new long[] {3, 1, 1, 1}, i -> x.told(14 + i));
        x.undo();
        x.undo();
        Edge.row("taken back", new long[] {-1, -1, -1, -1}, i -> x.told(14 + i));
        most.set(0, 0);
        most.enrol(65535);
        Edge.row("the most", new long[] {28, 16, 65535, checkOf(65535, 16)}, i -> most.told(14 + i));
    }

    private static int checkOf(int secret, int bits) {
        int sum = 0;
        for (int i = 0; i < bits; i++) {
            sum = 2 * sum + (secret >> i & 1);
            sum = sum > 15 ? sum - 16 ^ 3 : sum;
        }
        return sum;
    }

    private static void ring() {
        Edge.of(13, "Of a RING: 0 BASE, 1 DRIFT, 2 NOISE, 3 WEIGHT, 4 in how many PAIRS it is.");
        SlipSecret x = Check.told("ring 9999 -99 50;ring 0 99 0;ring 3 2 1;pair 1 0;");
        Edge.row("the first", new long[] {9999, -99, 50, 0, 1}, what -> x.ring(0, what));
        Edge.row("the middle one", new long[] {0, 99, 0, 0, 1}, what -> x.ring(1, what));
        Edge.row("the last, in no pair", new long[] {3, 2, 1, 0, 0}, what -> x.ring(2, what));
        SlipSecret most = Check.told(Texts.eight(28, ""));
        Edge.due("in all seven of its pairs", 7, most.ring(7, 4));
        // Ring 0 is slower than all others now: the first of its pairs is guessed wrong, the others not.
        most.wear(0, 0, 0);
        for (int i = 0; i < 7; i++) most.hear(i);
        Edge.due("one wrong", 1, most.train(1));
        Edge.due("a weight below 0", -1, most.ring(0, 3));
        Edge.due("a weight above 0", 1, most.ring(1, 3));
        for (int ring : new int[] {-1, 4, 10, LEAST, MOST}) {
            Edge.refused("ring " + ring, Edge.MISSING, Texts::rich, y -> y.ring(ring, 0));
            Edge.refused("ring " + ring + " and what", Edge.MISSING, Texts::rich, y -> y.ring(ring, -1));
        }
        for (int what : new int[] {-1, 5, LEAST, MOST}) {
            Edge.refused("what " + what, Edge.ARGUMENT, Texts::rich, y -> y.ring(3, what));
        }
    }

    private static void speed() {
        Edge.of(14, "SPEED at a HEAT.");
        SlipSecret x = Check.told("ring 0 99 0;ring 0 -99 50;ring 9999 0 0;");
        Edge.due("the coldest", -594, x.speed(0, -40));
        Edge.due("the hottest", 1039, x.speed(0, 125));
        Edge.due("cut towards 0", -1039, x.speed(1, 125));
        Edge.due("without noise", 0, x.speed(1, 20));
        Edge.due("the last", 9999, x.speed(2, 125));
        for (int ring : new int[] {-1, 4, LEAST, MOST}) {
            Edge.refused("ring " + ring, Edge.MISSING, Texts::rich, y -> y.speed(ring, 20));
            Edge.refused("ring " + ring + " and heat", Edge.MISSING, Texts::rich, y -> y.speed(ring, -41));
        }
        for (int heat : new int[] {-41, 126, LEAST, MOST}) {
            Edge.refused("heat " + heat, Edge.ARGUMENT, Texts::rich, y -> y.speed(3, heat));
        }
    }

    private static void rank() {
        Edge.of(15, "The RING that is the k-th fastest at a HEAT (0 the fastest; of alike ones the lesser number ahead).");
        SlipSecret alike = Check.told("ring5 0 9;".repeat(10));
        for (int k = 0; k < 10; k++) {
            Edge.due("all alike", k, alike.rank(k, 20));
        }
        SlipSecret x = Check.told("ring 100 0 0;ring 90 10 0;ring 100 0 0;");
        Edge.row("at 20", new long[] {0, 2, 1}, k -> x.rank(k, 20));
        Edge.row("at 29", new long[] {0, 2, 1}, k -> x.rank(k, 29));
        Edge.row("at 30, alike", new long[] {0, 1, 2}, k -> x.rank(k, 30));
        Edge.row("at 31", new long[] {1, 0, 2}, k -> x.rank(k, 31));
        Edge.row("at the coldest", new long[] {0, 2, 1}, k -> x.rank(k, -40));
        Edge.row("at the hottest", new long[] {1, 0, 2}, k -> x.rank(k, 125));
        Edge.due("one ring", 0, Check.told("ring 0 0 0;").rank(0, 125));
        for (int k : new int[] {-1, 4, LEAST, MOST}) {
            Edge.refused("k " + k, Edge.MISSING, Texts::rich, y -> y.rank(k, 20));
            Edge.refused("k " + k + " and heat", Edge.MISSING, Texts::rich, y -> y.rank(k, 126));
        }
        for (int heat : new int[] {-41, 126, LEAST, MOST}) {
            Edge.refused("heat " + heat, Edge.ARGUMENT, Texts::rich, y -> y.rank(0, heat));
        }
    }

    private static void pair() {
        Edge.of(16, "Of a PAIR: 0 a, 1 b, 2 BIT, 3 MARGIN, 4 1 STEADY, 0 not, 5 its BLOCK (NONE), 6 the BIT that was HEARD (NONE), 7 the BIT that FOLLOWS (NONE), 8 GUESSED BIT, 9 its bit of HELPER (NONE), 10 its BIT as ENROLLED (NONE).");
        SlipSecret x = Check.told(Texts.eight(28, "guard 10;repeat 1;"));
        Edge.row("a margin that is the guard", new long[] {0, 1, 1, 10, 0, -1, -1, -1, 1, -1, -1}, what -> x.pair(0, what));
        Edge.row("the first in a block", new long[] {0, 2, 1, 20, 1, 0, -1, -1, 1, -1, -1}, what -> x.pair(1, what));
        x.enrol(2);
        x.hear(1);
        x.hear(2);
        x.wear(0, 0, 0);
        x.hear(2);
        // Pair 0 is steady now, so the blocks are one behind. 0 ahead of 2 and 3 ahead of 0 were heard:
        // 3 ahead of 2, which is pair 13, follows.
        Edge.row("enrolled, heard, and worn", new long[] {0, 2, 0, 60, 1, 1, 1, 1, 1, 1, 1}, what -> x.pair(1, what));
        Edge.row("heard again", new long[] {0, 3, 0, 50, 1, 2, 0, 0, 1, 0, 1}, what -> x.pair(2, what));
        Edge.due("follows", 0, x.pair(13, 7));
        Edge.due("was not heard", -1, x.pair(13, 6));
        for (int p : new int[] {-1, 4, 28, 31, 32, LEAST, MOST}) {
            Edge.refused("pair " + p, Edge.MISSING, Texts::rich, y -> y.pair(p, 0));
            Edge.refused("pair " + p + " and what", Edge.MISSING, Texts::rich, y -> y.pair(p, 11));
        }
        for (int what : new int[] {-1, 11, LEAST, MOST}) {
            Edge.refused("what " + what, Edge.ARGUMENT, Texts::rich, y -> y.pair(3, what));
        }
    }

    private static void pairNone() {
        SlipSecret x = Check.told(Texts.eight(17, "repeat 1;"));
        Edge.due("the 16th pair's block", 15, x.pair(15, 5));
        Edge.due("the 17th is in none", -1, x.pair(16, 5));
        x.enrol(0);
        Edge.due("the 16th's helper", 1, x.pair(15, 9));
        Edge.due("the 16th's bit", 1, x.pair(15, 10));
        Edge.due("the 17th has none", -1, x.pair(16, 9));
        Edge.due("the 17th has none", -1, x.pair(16, 10));
        x.set(4, 7);
        Edge.due("the block is that of now", 1, x.pair(13, 5));
        Edge.due("and none is", -1, x.pair(14, 5));
        Edge.due("the helper is that of then", 1, x.pair(14, 9));
        SlipSecret seven = Check.told(Texts.eight(7, "hamming;"));
        Edge.due("the seventh of seven", 0, seven.pair(6, 5));
        SlipSecret six = Check.told(Texts.eight(6, "hamming;"));
        Edge.due("the first of six", -1, six.pair(0, 5));
    }

    private static void bit() {
        Edge.of(17, "BIT of a PAIR at a HEAT.");
        SlipSecret x = Check.told("ring 100 0 0;ring 105 -10 0;pair 0 1;");
        int[][] due = {{-40, 0}, {20, 0}, {24, 0}, {25, 1}, {26, 1}, {125, 1}};
        for (int[] d : due) {
            Edge.due("0 1 at " + d[0], d[1], x.bit(0, d[0]));
        }
        SlipSecret y = Check.told("ring 100 0 0;ring 105 -10 0;pair 1 0;");
        int[][] other = {{-40, 1}, {20, 1}, {24, 1}, {25, 0}, {26, 0}, {125, 0}};
        for (int[] d : other) {
            Edge.due("1 0 at " + d[0], d[1], y.bit(0, d[0]));
        }
        for (int p : new int[] {-1, 4, LEAST, MOST}) {
            Edge.refused("pair " + p, Edge.MISSING, Texts::rich, z -> z.bit(p, 20));
            Edge.refused("pair " + p + " and heat", Edge.MISSING, Texts::rich, z -> z.bit(p, -41));
        }
        for (int heat : new int[] {-41, 126, LEAST, MOST}) {
            Edge.refused("heat " + heat, Edge.ARGUMENT, Texts::rich, z -> z.bit(3, heat));
        }
    }

    /** How many heats turn the one pair of a text, and the first of these. */
    private static void flips(String what, int many, int first, String text) {
        SlipSecret x = Check.told(text);
        Edge.due(what + ", how many", many, x.flips(0, 0));
        Edge.due(what + ", the first", first, x.flips(0, 1));
    }

    private static void flips() {
        Edge.of(18, "HEATS from LOW to HIGH at which a PAIR's BIT is other than its BIT: 0 how many, 1 the first (999 without).");
        // Alike at 25, where 0 1 is 1 again, and 1 0 still 0.
        String rising = "ring 100 0 0;ring 95 10 0;pair 0 1;";
        String falling = "ring 100 0 0;ring 105 10 0;pair 1 0;";
        flips("20 alone", 0, 999, rising);
        flips("one that does not drift", 0, 999, "ring 2 0 0;ring 1 0 0;pair 0 1;heats -40 125;");
        flips("alike does not turn it", 0, 999, rising + "heats -40 25;");
        flips("high counts", 1, 26, rising + "heats -40 26;");
        flips("low counts", 2, 26, rising + "heats 26 27;");
        flips("low and high alike", 1, 40, rising + "heats 40 40;");
        flips("the hottest", 100, 26, rising + "heats -40 125;");
        flips("the coldest, alike turns it", 56, -40, falling + "heats -40 125;");
        flips("alike turns it", 1, 15, falling + "heats 15 125;");
        flips("none above", 0, 999, falling + "heats 16 125;");
        flips("20 outside", 1, 30, rising + "heats 30 30;");
        flips("a gap between", 2, 24, "ring 0 2 0;ring 0 3 0;pair 0 1;heats 23 27;");
        for (int p : new int[] {-1, 4, LEAST, MOST}) {
            Edge.refused("pair " + p, Edge.MISSING, Texts::rich, x -> x.flips(p, 0));
            Edge.refused("pair " + p + " and what", Edge.MISSING, Texts::rich, x -> x.flips(p, 2));
        }
        for (int what : new int[] {-1, 2, LEAST, MOST}) {
            Edge.refused("what " + what, Edge.ARGUMENT, Texts::rich, x -> x.flips(3, what));
        }
    }

    private static void odds(String what, int upper, int lower, String text, int heat) {
        SlipSecret x = Check.told(text);
        Edge.due(what + ", upper", upper, x.odds(0, heat, false));
        Edge.due(what + ", lower", lower, x.odds(0, heat, true));
    }

    private static void odds() {
        Edge.of(19, "How likely a PAIR's BIT, read once at a HEAT (NOISE of both), is other than its BIT: the upper number (lower false) or the lower one, in lowest terms (0 by 1).");
        odds("no noise", 0, 1, "ring 2 0 0;ring 1 0 0;pair 0 1;", 20);
        odds("no noise, alike", 0, 1, "ring 2 0 0;ring 2 0 0;pair 0 1;", 20);
        odds("no noise, turned for sure", 1, 1, "ring 20 0 0;ring 10 10 0;pair 0 1;", 125);
        odds("noise that never matters", 0, 1, "ring 200 0 50;ring 99 0 50;pair 0 1;", 20);
        odds("noise up to alike, 0 is ahead", 0, 1, "ring 200 0 50;ring 100 0 50;pair 0 1;", 20);
        odds("noise up to alike, 0 is ahead, told as b", 0, 1, "ring 200 0 50;ring 100 0 50;pair 1 0;", 20);
        odds("one draw of all", 1, 10201, "ring 199 0 50;ring 100 0 50;pair 0 1;", 20);
        odds("noise up to alike, 1 is the faster", 1, 10201, "ring 100 0 50;ring 200 0 50;pair 0 1;", 20);
        odds("noise, and turned for sure", 1, 1, "ring 200 -99 50;ring 100 0 50;pair 0 1;", 125);
        odds("alike, one noise", 1, 3, "ring 5 0 1;ring 5 0 0;pair 0 1;", 20);
        odds("alike, the other noise", 1, 3, "ring 5 0 0;ring 5 0 1;pair 0 1;", 20);
        odds("alike, both: 3 of 9", 1, 3, "ring 5 0 1;ring 5 0 1;pair 0 1;", 20);
        odds("alike, bit 0: 3 of 9", 1, 3, "ring 5 0 1;ring 5 0 1;pair 1 0;", 20);
        odds("alike, the most: 5050 of 10201", 50, 101, "ring 5 0 50;ring 5 0 50;pair 0 1;", 20);
        for (int p : new int[] {-1, 4, LEAST, MOST}) {
            Edge.refused("pair " + p, Edge.MISSING, Texts::rich, x -> x.odds(p, 20, false));
            Edge.refused("pair " + p + " and heat", Edge.MISSING, Texts::rich, x -> x.odds(p, 126, true));
        }
        for (int heat : new int[] {-41, 126, LEAST, MOST}) {
            Edge.refused("heat " + heat, Edge.ARGUMENT, Texts::rich, x -> x.odds(3, heat, true));
        }
    }

    private static void block() {
        Edge.of(20, "The k-th PAIR of a BLOCK; NONE: there are not so many, or k is below 0.");
        int[][] due = {{1, 16, 1}, {3, 9, 3}, {5, 5, 5}, {7, 4, 7}, {0, 4, 7}};
        for (int[] d : due) {
            SlipSecret x = Check.told(Texts.eight(28, ""));
            x.set(4, d[0]);
            int last = d[1] - 1;
            String what = "repeat " + d[0];
            Edge.due(what + ", the first of the first", 0, x.block(0, 0));
            Edge.due(what + ", the last of the last", d[1] * d[2] - 1, x.block(last, d[2] - 1));
            for (int k : new int[] {-1, d[2], LEAST, MOST}) {
                Edge.due(what + ", k " + k, -1, x.block(0, k));
                Edge.due(what + ", k " + k + " of the last", -1, x.block(last, k));
            }
            Edge.same(what + ", no block " + d[1], Edge.MISSING, Check.outcome(() -> x.block(d[1], 0)));
        }
        for (int block : new int[] {-1, 1, 16, LEAST, MOST}) {
            Edge.refused("block " + block, Edge.MISSING, Texts::rich, x -> x.block(block, 0));
            Edge.refused("block " + block + ", k below 0", Edge.MISSING, Texts::rich, x -> x.block(block, -1));
        }
        Edge.refused("no block is full", Edge.MISSING, () -> Check.told(Texts.eight(6, "repeat 7;")), x -> x.block(0, 0));
        // Used pairs alone: 0 2, 0 3 .. have margins above 10.
        SlipSecret some = Check.told(Texts.eight(10, "guard 10;repeat 3;"));
        Edge.row("the first block", new long[] {1, 2, 3, -1}, k -> some.block(0, k));
        Edge.row("the second block", new long[] {4, 5, 6, -1}, k -> some.block(1, k));
        some.enrol(0);
        some.set(4, 1);
        Edge.due("blocks as they are now", 8, some.block(6, 0));
    }
}
