/** Edges that the terms name: rings, pairs, settings, blocks, codes, readings, orders. */
final class EdgesOfTerms {
    private static final int[] WRONG_HEATS = {-41, 126, Integer.MIN_VALUE, Integer.MAX_VALUE};

    private EdgesOfTerms() {
    }

    static void all() {
        calls();
        rings();
        heats();
        speeds();
        pairs();
        bits();
        settings();
        margins();
        steadyAndUsed();
        blocks();
        words();
        decoded();
        checks();
        enrolled();
        readings();
        draws();
        recovered();
        shakyAndSafe();
        waysAndSure();
        leakAndLeft();
    }

    private static void calls() {
        Edge.of(Edge.TERMS, "An object is used for at most 512 calls after it has been made; what later calls answer is free.");
        SlipSecret x = new SlipSecret();
        for (int call = 1; call <= 511; call++) {
            Edge.due("call " + call, call == 1 ? 0 : (call - 1) % 1000, x.set(0, call % 1000));
        }
        Edge.due("call 512", 511, x.told(6));
    }

    private static void rings() {
        Edge.of(Edge.TERMS, "RINGS, numbered from 0 on (10 at most): BASE (0 to 9,999), DRIFT (-99 to 99), NOISE (0 to 50).");
        String ten = "ring1 2 3;".repeat(9) + "ring4 5 6;";
        SlipSecret x = Edge.good(ten, 0);
        Edge.due("ten", 10, x.told(0));
        Edge.due("the first is 0", 1, x.ring(0, 0));
        Edge.due("the last is 9", 4, x.ring(9, 0));
        Edge.refused("none is 10", Edge.MISSING, () -> Check.told(ten), y -> y.ring(10, 0));
        Edge.refused("none is -1", Edge.MISSING, () -> Check.told(ten), y -> y.ring(-1, 0));
        Edge.fault(ten + "ring1 2 3;", 3, 100);
        SlipSecret least = Edge.good("ring 0 -99 0;", 0);
        SlipSecret most = Edge.good("ring 9999 99 50;", 0);
        Edge.row("least", new long[] {0, -99, 0}, what -> least.ring(0, what));
        Edge.row("most", new long[] {9999, 99, 50}, what -> most.ring(0, what));
        Edge.fault("ring 10000 0 0;", 2, 5);
        Edge.fault("ring 0 -100 0;", 2, 7);
        Edge.fault("ring 0 100 0;", 2, 7);
        Edge.fault("ring 0 0 51;", 2, 9);
    }

    private static void heats() {
        Edge.of(Edge.TERMS, "HEAT: -40 to 125.");
        for (int wrong : WRONG_HEATS) {
            Edge.refused("speed at " + wrong, Edge.ARGUMENT, Texts::rich, x -> x.speed(0, wrong));
            Edge.refused("rank at " + wrong, Edge.ARGUMENT, Texts::rich, x -> x.rank(0, wrong));
            Edge.refused("bit at " + wrong, Edge.ARGUMENT, Texts::rich, x -> x.bit(0, wrong));
            Edge.refused("odds at " + wrong, Edge.ARGUMENT, Texts::rich, x -> x.odds(0, wrong, false));
            Edge.refused("recover at " + wrong, Edge.ARGUMENT, Texts::rich, x -> x.recover(wrong, 0, 0));
            Edge.refused("fails at " + wrong, Edge.ARGUMENT, Texts::rich, x -> x.fails(wrong, 0, 1, 0));
            Edge.refused("safe at " + wrong, Edge.ARGUMENT, Texts::rich, x -> x.safe(wrong, 0));
            Edge.refused("low " + wrong, Edge.ARGUMENT, Texts::rich, x -> x.set(1, wrong));
            Edge.refused("high " + wrong, Edge.ARGUMENT, Texts::rich, x -> x.set(2, wrong));
        }
        // Ring 3 is 95 at 20 and 1 a degree, ring 0 is 100; nothing else drifts.
        SlipSecret x = Texts.four();
        x.enrol(1);
        Edge.due("speed at the coldest", 35, x.speed(3, -40));
        Edge.due("speed at the hottest", 200, x.speed(3, 125));
        Edge.due("rank at the coldest", 3, x.rank(3, -40));
        Edge.due("rank at the hottest", 3, x.rank(0, 125));
        Edge.due("bit at the coldest", 0, x.bit(3, -40));
        Edge.due("bit at the hottest", 1, x.bit(3, 125));
        Edge.due("odds at the coldest", 0, x.odds(3, -40, false));
        Edge.due("odds at the hottest", 1, x.odds(3, 125, false));
        Edge.due("recover at the coldest", 1, x.recover(-40, 0, 0));
        Edge.due("recover at the hottest", 1, x.recover(125, 0, 0));
        Edge.due("fails at the coldest", 0, x.fails(-40, 0, 1, 0));
        Edge.due("fails at the hottest", 0, x.fails(125, 0, 1, 0));
        Edge.due("safe at the coldest", 1, x.safe(-40, 1));
        Edge.due("safe at the hottest", 1, x.safe(125, 1));
        Edge.fault("heats -41 0;", 2, 6);
        Edge.fault("heats 0 126;", 2, 8);
        SlipSecret wide = Edge.good("heats -40 125;", 0);
        Edge.due("low", -40, wide.told(7));
        Edge.due("high", 125, wide.told(8));
    }

    private static void speeds() {
        Edge.of(Edge.TERMS, "SPEED of a RING at a HEAT: BASE, and DRIFT times (HEAT less 20) by 10 (cut).");
        SlipSecret x = Edge.good("ring 0 -99 0;ring 9999 99 50;ring 5 1 0;ring 5 -1 0;", 0);
        // 99 times 105 is 10395, 99 times 60 is 5940.
        Edge.due("below 0", -1039, x.speed(0, 125));
        Edge.due("slow when it is hot", 594, x.speed(0, -40));
        Edge.due("above 9,999", 11038, x.speed(1, 125));
        Edge.due("fast when it is hot", 9405, x.speed(1, -40));
        Edge.due("at 20", 9999, x.speed(1, 20));
        int[] heats = {10, 11, 19, 20, 21, 29, 30};
        int[] up = {4, 5, 5, 5, 5, 5, 6};
        int[] down = {6, 5, 5, 5, 5, 5, 4};
        for (int i = 0; i < heats.length; i++) {
            Edge.due("a tenth a degree at " + heats[i], up[i], x.speed(2, heats[i]));
            Edge.due("a tenth less a degree at " + heats[i], down[i], x.speed(3, heats[i]));
        }
    }

    private static void pairs() {
        Edge.of(Edge.TERMS, "PAIRS, numbered likewise (28 at most): two unlike RINGS a, b;");
        String most = Texts.eight(28, "");
        SlipSecret x = Edge.good(most, 28);
        Edge.due("the first is 0", 1, x.pair(0, 1));
        Edge.due("the last is 27", 6, x.pair(27, 0));
        Edge.refused("none is 28", Edge.MISSING, () -> Check.told(Texts.eight(9, "")), y -> y.pair(28, 0));
        Edge.refused("none is 9", Edge.MISSING, () -> Check.told(Texts.eight(9, "")), y -> y.pair(9, 0));
        Edge.refused("none is -1", Edge.MISSING, () -> Check.told(Texts.eight(9, "")), y -> y.pair(-1, 0));
        Edge.fault(most + "pair0 1;", 3, most.length());
        Edge.fault("ring0 0 0;ring0 0 0;pair 1 1;", 2, 27);
        Edge.of(Edge.TERMS, "none of the same two (in whatever order) twice.");
        Edge.fault("ring0 0 0;ring0 0 0;pair 0 1;pair 0 1;", 4, 34);
        Edge.fault("ring0 0 0;ring0 0 0;pair 0 1;pair 1 0;", 4, 34);
        Edge.fault("ring0 0 0;ring0 0 0;pair 1 0;pair 0 1;", 4, 34);
        Edge.good("ring0 0 0;ring0 0 0;ring0 0 0;pair 0 1;pair 1 2;pair 2 0;", 3);
    }

    private static void bits() {
        Edge.of(Edge.TERMS, "BIT of a PAIR at a HEAT: 1, if SPEED of a is greater, or they are alike and a is less than b; else 0. Its BIT alone: at 20.");
        String text = "ring 5 0 0;ring 5 10 0;pair 0 1;";
        String other = "ring 5 0 0;ring 5 10 0;pair 1 0;";
        SlipSecret x = Edge.good(text, 1);
        SlipSecret y = Edge.good(other, 1);
        int[][] due = {{19, 1, 0}, {20, 1, 0}, {21, 0, 1}};
        for (int[] d : due) {
            Edge.due("0 1 at " + d[0], d[1], x.bit(0, d[0]));
            Edge.due("1 0 at " + d[0], d[2], y.bit(0, d[0]));
        }
        x.set(2, 40);
        x.set(1, 30);
        Edge.due("20, though it is outside", 1, x.pair(0, 2));
        Edge.due("20, for who listens", 1, x.hear(0));
    }

    private static void settings() {
        Edge.of(Edge.TERMS, "SETTINGS: GUARD (0 to 999; 0 at first), LOW, HIGH (HEATS, LOW not above HIGH; 20 both at first), ALL (0, 1; 0 at first), REPEAT (0, 1, 3, 5, 7; 3 at first; 0: Hamming).");
        long[] first = {0, 20, 20, 0, 3};
        SlipSecret x = new SlipSecret();
        Edge.row("of a new object", first, i -> x.told(6 + i));
        SlipSecret y = Edge.good("ring 1 2 3;", 0);
        Edge.row("of a text without", first, i -> y.told(6 + i));
        SlipSecret z = Edge.good("guard 999;heats 20 20;all;hamming;", 0);
        Edge.row("told", new long[] {999, 20, 20, 1, 0}, i -> z.told(6 + i));
        Edge.due("hamming takes seven", 1, Check.told(Texts.eight(7, "hamming;")).told(4));
        Edge.due("and not six", 0, Check.told(Texts.eight(6, "hamming;")).told(4));
        Edge.fault("guard 1000;", 2, 6);
        Edge.fault("heats 21 20;", 2, 9);
    }

    /** The margin of the one pair of a text. */
    private static void margin(String what, int due, String text) {
        Edge.due(what, due, Check.told(text).pair(0, 3));
    }

    private static void margins() {
        Edge.of(Edge.TERMS, "MARGIN of a PAIR: the least, of all HEATS from LOW to HIGH, and of 20, of SPEED of a less that of b (b less a, if its BIT is 0), less NOISE of a and of b.");
        String rising = "ring 100 10 0;ring 90 0 0;pair 0 1;";
        String falling = "ring 100 -10 0;ring 90 0 0;pair 0 1;";
        margin("20 alone", 10, rising);
        margin("low is the least, and counts", 5, rising + "heats 15 25;");
        margin("high is the least, and counts", 5, falling + "heats 15 25;");
        margin("the coldest", -50, rising + "heats -40 125;");
        margin("the hottest", -95, falling + "heats -40 125;");
        margin("20 counts below low", 10, rising + "heats 30 40;");
        margin("20 counts above high", 10, falling + "heats 0 10;");
        margin("low and high alike", 3, falling + "heats 27 27;");
        margin("b less a", 5, "ring 90 0 0;ring 100 10 0;pair 0 1;heats 15 25;");
        margin("alike", 0, "ring 90 0 0;ring 90 0 0;pair 0 1;");
        margin("alike, and bit 0", 0, "ring 90 0 0;ring 90 0 0;pair 1 0;");
        margin("less both noises", 3, "ring 100 0 3;ring 90 0 4;pair 0 1;");
        margin("below 0 by noise", -90, "ring 100 0 50;ring 90 0 50;pair 0 1;");
        // By the cut: 2 tenths less 3 tenths a degree are 0 at 23, 25 and 26, and -1 at 24.
        margin("between low and high", -1, "ring 0 2 0;ring 0 3 0;pair 0 1;heats 23 26;");
        margin("not outside", 0, "ring 0 2 0;ring 0 3 0;pair 0 1;heats 25 26;");
    }

    private static void steadyAndUsed() {
        String text = "ring 100 0 0;ring 90 0 0;ring 79 0 0;pair 0 1;pair 1 2;repeat 1;";
        Edge.of(Edge.TERMS, "STEADY: MARGIN is greater than GUARD.");
        int[][] due = {{0, 2}, {9, 2}, {10, 1}, {11, 0}, {999, 0}};
        for (int[] d : due) {
            Edge.due("guard " + d[0], d[1], Check.told(text + "guard " + d[0] + ";").told(2));
        }
        SlipSecret alike = Check.told("ring 5 0 0;ring 5 0 0;pair 0 1;");
        Edge.due("a margin of 0 is not above 0", 0, alike.told(2));
        Edge.of(Edge.TERMS, "USED are all PAIRS with ALL 1, else the STEADY ones, in order.");
        SlipSecret x = Check.told(text + "guard 10;");
        Edge.due("the steady one", 1, x.told(3));
        Edge.due("which is pair 1", 1, x.block(0, 0));
        x.set(3, 1);
        Edge.due("all", 2, x.told(3));
        Edge.due("in order", 0, x.block(0, 0));
        Edge.due("in order", 1, x.block(1, 0));
        x.set(0, 999);
        Edge.due("though none is steady", 2, x.told(3));
        SlipSecret below = Check.told("ring 5 0 9;ring 5 0 9;pair 0 1;all;");
        Edge.due("though its margin is below 0", 1, below.told(3));
        below.set(3, 0);
        Edge.due("none", 0, below.told(3));
    }

    private static void blocks() {
        Edge.of(Edge.TERMS, "BLOCKS: USED PAIRS in order, n each (n is REPEAT; Hamming: 7), as many as are full, and as give 16 SECRET bits together at most (1 each; Hamming: 4); those behind are in none.");
        // Pairs, repeat, blocks, secret bits.
        int[][] due = {{0, 1, 0, 0}, {1, 1, 1, 1}, {15, 1, 15, 15}, {16, 1, 16, 16}, {17, 1, 16, 16}, {28, 1, 16, 16},
            {2, 3, 0, 0}, {3, 3, 1, 1}, {5, 3, 1, 1}, {6, 3, 2, 2}, {28, 3, 9, 9}, {4, 5, 0, 0}, {5, 5, 1, 1}, {28, 5, 5, 5},
            {6, 7, 0, 0}, {7, 7, 1, 1}, {28, 7, 4, 4}, {6, 0, 0, 0}, {7, 0, 1, 4}, {13, 0, 1, 4}, {14, 0, 2, 8},
            {27, 0, 3, 12}, {28, 0, 4, 16}};
        for (int[] d : due) {
            SlipSecret x = Check.told(Texts.eight(d[0], ""));
            x.set(4, d[1]);
            Edge.due(d[0] + " pairs, repeat " + d[1], d[2], x.told(4));
            Edge.due(d[0] + " pairs, repeat " + d[1] + ", bits", d[3], x.told(5));
            int n = d[1] == 0 ? 7 : d[1];
            if (d[2] > 0) {
                Edge.due("the last pair in one", d[2] - 1, x.pair(d[2] * n - 1, 5));
            }
            if (d[0] > d[2] * n) {
                Edge.due("the first one in none", -1, x.pair(d[2] * n, 5));
                Edge.due("the last one in none", -1, x.pair(d[0] - 1, 5));
            }
        }
    }

    private static void words() {
        Edge.of(Edge.TERMS, "WORD of SECRET bits of a BLOCK: with REPEAT the bit, n times. Hamming, bits d1 d2 d3 d4: places 1 to 7: p1 p2 d1 p3 d2 d3 d4, p1 is d1 and d2 and d4 (added, modulo 2), p2 d1 d3 d4, p3 d2 d3 d4.");
        for (int n = 1; n <= 7; n += 2) {
            for (int bit = 0; bit <= 1; bit++) {
                SlipSecret x = Check.told(Texts.eight(n, "repeat " + n + ";"));
                x.enrol(bit);
                // Each pair's bit is 1.
                for (int i = 0; i < n; i++) {
                    Edge.due("repeat " + n + ", place " + i, 1 - bit, x.pair(i, 9));
                }
            }
        }
        // Words of 0, of each bit alone, and of all.
        int[][] due = {{0, 0, 0, 0, 0, 0, 0, 0}, {1, 1, 1, 1, 0, 0, 0, 0}, {2, 1, 0, 0, 1, 1, 0, 0}, {4, 0, 1, 0, 1, 0, 1, 0},
            {8, 1, 1, 0, 1, 0, 0, 1}, {15, 1, 1, 1, 1, 1, 1, 1}};
        for (int[] d : due) {
            SlipSecret x = Check.told(Texts.eight(7, "hamming;"));
            x.enrol(d[0]);
            for (int i = 0; i < 7; i++) {
                Edge.due("hamming " + d[0] + ", place " + (i + 1), 1 - d[i + 1], x.pair(i, 9));
            }
        }
    }

    /** What is recovered of a secret after the first so many places of its block were turned. */
    private static int afterTurns(String code, int pairs, int secret, int turns) {
        SlipSecret x = Check.told(Texts.eight(pairs, code));
        x.enrol(secret);
        for (int i = 0; i < turns; i++) {
            x.turn(i);
        }
        return x.recover(20, 0, 0);
    }

    private static void decoded() {
        Edge.of(Edge.TERMS, "DECODED: with REPEAT the bit that most places have. Hamming: c1 the sum (modulo 2) of places 1 3 5 7, c2 of 2 3 6 7, c3 of 4 5 6 7; c1 and 2 c2 and 4 c3 is the place that is turned first, if it is not 0; then places 3 5 6 7.");
        for (int n = 1; n <= 7; n += 2) {
            for (int turns = 0; turns <= n; turns++) {
                int bit = turns <= n / 2 ? 1 : 0;
                Edge.due(turns + " of " + n + " turned from 1", bit, afterTurns("repeat " + n + ";", n, 1, turns));
                Edge.due(turns + " of " + n + " turned from 0", 1 - bit, afterTurns("repeat " + n + ";", n, 0, turns));
            }
        }
        for (int secret = 0; secret < 16; secret++) {
            for (int place = 0; place < 7; place++) {
                SlipSecret x = Check.told(Texts.eight(7, "hamming;"));
                x.enrol(secret);
                Edge.due("hamming " + secret, secret, x.recover(20, 0, 0));
                x.turn(place);
                Edge.due("hamming " + secret + ", place " + (place + 1) + " turned", secret, x.recover(20, 0, 0));
            }
        }
        Edge.due("hamming, no place", 9, afterTurns("hamming;", 7, 9, 0));
        // Places 1 and 2 together tell place 3, which is d1.
        Edge.due("hamming, two places", 8, afterTurns("hamming;", 7, 9, 2));
        // Places 1, 2 and 3 are the word of d1: the sums are 0.
        Edge.due("hamming, three places", 8, afterTurns("hamming;", 7, 9, 3));
        Edge.due("hamming, all places", 6, afterTurns("hamming;", 7, 9, 7));
    }

    private static void checks() {
        Edge.of(Edge.TERMS, "SECRETS as numbers: the first BLOCK's first bit is 1, the next one 2, and so on.");
        SlipSecret x = Check.told(Texts.eight(14, "hamming;"));
        x.enrol(16);
        // Word of d1: places 1 2 3; all bits are 1.
        Edge.due("the first block has 0", 1, x.pair(2, 9));
        Edge.due("the second block has d1", 0, x.pair(9, 9));
        Edge.due("and not d2", 1, x.pair(11, 9));
        SlipSecret most = Check.told(Texts.eight(16, "repeat 1;"));
        most.enrol(1 << 15);
        Edge.due("the last block has it", 0, most.pair(15, 9));
        Edge.due("the one ahead not", 1, most.pair(14, 9));
        Edge.of(Edge.TERMS, "CHECK of a SECRET: from 0 on, bit by bit: twice what there is, and the bit; if that is above 15, less 16, and bits 1 and 2 of it are turned.");
        // Bits, secret, check: 15 is not above 15, 16 is.
        int[][] due = {{1, 0, 0}, {1, 1, 1}, {4, 15, 15}, {4, 1, 8}, {4, 8, 1}, {5, 1, 3}, {5, 17, 2}, {5, 31, 12},
            {5, 15, 13}, {5, 30, 15}, {16, 0, 0}, {16, 1 << 15, 1}, {16, 1 << 11, 3}};
        for (int[] d : due) {
            SlipSecret y = Check.told(Texts.eight(d[0], "repeat 1;"));
            y.enrol(d[1]);
            Edge.due(d[1] + " of " + d[0] + " bits", d[2], y.told(17));
        }
    }

    private static void enrolled() {
        Edge.of(Edge.TERMS, "ENROLLED with a SECRET (all of BLOCKS as they are then): PAIRS in BLOCKS, REPEAT, their BITS, HELPER (of each of these PAIRS the BIT and that of the WORD, added modulo 2), CHECK are kept as they are then (HELPER's bits can be turned).");
        SlipSecret x = Check.told(Texts.eight(7, "repeat 3;"));
        Edge.due("two blocks", 2, x.enrol(2));
        x.set(0, 999);
        x.set(4, 1);
        x.wear(0, 0, 0);
        Edge.due("pairs that are used no more", 0, x.told(3));
        Edge.due("pairs", 6, x.told(14));
        Edge.due("secret bits", 2, x.told(15));
        Edge.due("check: 0, then 1", 1, x.told(17));
        for (int i = 0; i < 6; i++) {
            Edge.due("bit of " + i, 1, x.pair(i, 10));
            Edge.due("helper of " + i, i < 3 ? 1 : 0, x.pair(i, 9));
        }
        Edge.due("the seventh is in none", -1, x.pair(6, 10));
        Edge.due("all turn", 6, x.recover(20, 0, 1));
        Edge.due("and so does the secret", 1, x.recover(20, 0, 0));
        Edge.due("turned", 0, x.turn(0));
        Edge.due("the check stays", 1, x.told(17));
        Edge.due("its bit stays", 1, x.pair(0, 10));
    }

    private static void readings() {
        Edge.of(Edge.TERMS, "A READING at a HEAT by a SEED: of these PAIRS in order each RING's SPEED (a's, then b's) and, if its NOISE is above 0, a DRAW modulo 2 NOISE and 1, less NOISE; BIT of these, by RINGS as they are now.");
        SlipSecret x = Check.told(Texts.ONE_DRAW);
        x.enrol(0);
        Edge.due("one draw", 74, x.recover(20, 0, 5));
        x.wear(0, 2, 0);
        Edge.due("no noise, no draw", 0, x.recover(20, 0, 5));
        x.wear(1, 2, 1);
        Edge.due("b's draw", 74, x.recover(20, 0, 5));
        x.wear(0, 2, 1);
        Edge.due("two draws", 75 * 74 + 74, x.recover(20, 0, 5));
        // From 0: 74, 5624; 74 is 2 and 5624 is 2 modulo 3: both faster by 1; modulo 101: 74, 69.
        x.wear(1, 0, 101);
        Edge.due("101 against 102", 1, x.recover(20, 0, 1));
        x.wear(1, 0, 100);
        Edge.due("101 against 101, alike", 0, x.recover(20, 0, 1));
        x.wear(0, 2, 50);
        x.wear(1, 2, 50);
        x.wear(1, 0, 105);
        Edge.due("100 and 24 against 105 and 19, alike", 0, x.recover(20, 0, 1));
        x.wear(1, 0, 106);
        Edge.due("a's draw is the first", 1, x.recover(20, 0, 1));
        // 45438 becomes 0, the lowest draw, less 50; then 74, more by 24.
        x.wear(1, 0, 26);
        Edge.due("50 against 50", 0, x.recover(20, 45438, 1));
        x.wear(1, 0, 27);
        Edge.due("50 against 51", 1, x.recover(20, 45438, 1));
        // 100 modulo 101 is the highest draw: from 1748; then 75 times 100 and 74 is 7574, 100 again.
        Edge.due("100 comes of 1748", 100, (75L * 1748 + 74) % 65537);
        x.wear(1, 0, 100);
        Edge.due("150 against 150", 0, x.recover(20, 1748, 1));
        x.wear(1, 0, 101);
        Edge.due("150 against 151", 1, x.recover(20, 1748, 1));
        SlipSecret order = Check.told("ring 100 0 1;ring 50 0 2;ring 20 0 0;pair 0 2;pair 2 1;pair 1 0;repeat 1;");
        order.enrol(0);
        Edge.due("each pair draws anew", draws(9, 4), order.recover(20, 9, 5));
    }

    private static int draws(int seed, int many) {
        int s = seed;
        for (int i = 0; i < many; i++) {
            s = (75 * s + 74) % 65537;
        }
        return s;
    }

    private static void draws() {
        Edge.of(Edge.TERMS, "(DRAW: the SEED becomes 75 times it and 74, modulo 65,537; that.)");
        SlipSecret x = Check.told(Texts.ONE_DRAW);
        x.enrol(0);
        // 873 is the least that goes round; 45438 becomes 0; 65536 stays.
        int[][] due = {{0, 74}, {1, 149}, {872, 65474}, {873, 12}, {874, 87}, {45438, 0}, {45437, 65462}, {65535, 65461},
            {65536, 65536}};
        for (int[] d : due) {
            Edge.due("seed " + d[0], d[1], x.recover(20, d[0], 5));
        }
    }

    private static void recovered() {
        String text = Texts.eight(7, "repeat 7;");
        Edge.of(Edge.TERMS, "RAW: how many are other than as ENROLLED. RECOVERED: the READING, HELPER added (modulo 2), DECODED, BLOCK by BLOCK. CORRECTED: places that are other than the WORD of what is DECODED.");
        // Ring 0 is in all seven pairs: slower than all others but a few, it turns as many bits.
        int[][] due = {{80, 0, 1, 0}, {69, 1, 1, 1}, {49, 3, 1, 3}, {39, 4, 0, 3}, {19, 6, 0, 1}, {0, 7, 0, 0}};
        for (int[] d : due) {
            SlipSecret x = Check.told(text);
            x.enrol(1);
            x.wear(0, 0, d[0]);
            Edge.due("base " + d[0] + ", raw", d[1], x.recover(20, 0, 1));
            Edge.due("base " + d[0] + ", recovered", d[2], x.recover(20, 0, 0));
            Edge.due("base " + d[0] + ", corrected", d[3], x.recover(20, 0, 2));
        }
        Edge.of(Edge.TERMS, "It is REFUSED, if its CHECK is not that which is kept; RIGHT, if it is the SECRET.");
        SlipSecret x = Check.told(Texts.eight(5, "repeat 1;"));
        x.enrol(0);
        Edge.due("right: not refused", 0, x.recover(20, 0, 3));
        Edge.due("right", 1, x.recover(20, 0, 4));
        x.turn(0);
        Edge.due("16 becomes 3: refused", 1, x.recover(20, 0, 3));
        Edge.due("not right", 0, x.recover(20, 0, 4));
        x.turn(3);
        x.turn(4);
        Edge.due("3 and 3 is 0: not refused", 0, x.recover(20, 0, 3));
        Edge.due("yet not right", 0, x.recover(20, 0, 4));
    }

    private static void shakyAndSafe() {
        Edge.of(Edge.TERMS, "SHAKY at a HEAT is an ENROLLED PAIR, if some READING there (whatever the draws) has a BIT of it other than as ENROLLED;");
        // Noises, whether it is shaky if ring 0 is the faster one by 5 (and ahead when alike), or ring 1.
        int[][] noises = {{0, 0, 0, 0}, {2, 2, 0, 0}, {3, 2, 0, 1}, {5, 0, 0, 1}, {0, 5, 0, 1}, {3, 3, 1, 1}, {0, 6, 1, 1},
            {6, 0, 1, 1}, {50, 50, 1, 1}};
        for (int[] d : noises) {
            for (String pair : new String[] {"pair 0 1;", "pair 1 0;"}) {
                String what = pair + " noises " + d[0] + " " + d[1];
                Edge.due(what + ", 0 is faster", d[2], shaky("ring 100 0 0;ring 95 0 0;" + pair, d));
                Edge.due(what + ", 1 is faster", d[3], shaky("ring 95 0 0;ring 100 0 0;" + pair, d));
            }
        }
        safe();
    }

    private static int shaky(String text, int[] noises) {
        SlipSecret x = Check.told(text + "all;repeat 1;");
        x.enrol(0);
        x.wear(0, 2, noises[0]);
        x.wear(1, 2, noises[1]);
        return x.safe(20, 0);
    }

    private static void safe() {
        Edge.of(Edge.TERMS, "SAFE a BLOCK of what is ENROLLED, if it has no more SHAKY PAIRS, and places at which HELPER is other than it was at first, together (a PAIR that is both counts once), than its code puts right (REPEAT: n less 1 by 2; Hamming: 1).");
        int[][] due = {{1, 1, 0}, {3, 3, 1}, {5, 5, 2}, {7, 7, 3}, {0, 7, 1}};
        for (int[] d : due) {
            for (int turns = 0; turns <= d[1]; turns++) {
                SlipSecret x = Check.told(Texts.eight(d[1], ""));
                x.set(4, d[0]);
                x.enrol(0);
                for (int i = 0; i < turns; i++) {
                    x.turn(i);
                }
                Edge.due("repeat " + d[0] + ", " + turns + " turned", turns <= d[2] ? 1 : 0, x.safe(20, 1));
            }
        }
        // Ring 0 worn to 69: pair 0 1 is shaky, no other.
        SlipSecret x = Check.told(Texts.eight(3, "repeat 3;"));
        x.enrol(0);
        x.wear(0, 0, 69);
        Edge.due("one shaky", 1, x.safe(20, 1));
        x.turn(0);
        Edge.due("shaky and turned, once", 1, x.safe(20, 1));
        x.turn(1);
        Edge.due("one shaky, and another turned", 0, x.safe(20, 1));
        x.turn(1);
        Edge.due("turned back", 1, x.safe(20, 1));
        x.wear(0, 0, 59);
        Edge.due("two shaky", 0, x.safe(20, 1));
    }

    private static void waysAndSure() {
        Edge.of(Edge.TERMS, "WAYS of PAIRS: how many rows of BITS of them there can be, were SPEEDS any (each order of RINGS gives one; several may give the same).");
        String five = "ring0 0 0;".repeat(5);
        String[] pairs = {"", "pair0 1;", "pair0 1;pair2 3;", "pair0 1;pair1 2;", "pair0 1;pair1 2;pair2 0;",
            "pair0 1;pair1 2;pair2 3;pair3 0;", "pair0 1;pair1 2;pair2 3;pair3 0;pair0 2;",
            "pair0 1;pair1 2;pair2 3;pair3 4;pair4 0;"};
        int[] due = {1, 2, 4, 4, 6, 14, 18, 30};
        int[] sure = {0, 1, 2, 2, 2, 3, 4, 4};
        for (int i = 0; i < pairs.length; i++) {
            Edge.due("'" + pairs[i] + "'", due[i], Check.told(five + pairs[i]).ways(0));
        }
        Edge.due("no ring", 1, new SlipSecret().ways(0));
        Edge.of(Edge.TERMS, "SURE: the greatest k by which 2 to the k is WAYS at most.");
        for (int i = 1; i < pairs.length; i++) {
            SlipSecret x = Check.told(five + pairs[i] + "all;repeat 1;");
            x.enrol(0);
            Edge.due("of " + due[i], sure[i], x.leak(0));
        }
        SlipSecret most = Check.told(Texts.eight(28, "hamming;"));
        most.enrol(0);
        Edge.due("of 40320", 15, most.leak(0));
        SlipSecret row = Check.told("ring0 0 0;".repeat(10)
                + "pair0 1;pair1 2;pair2 3;pair3 4;pair4 5;pair5 6;pair6 7;pair7 8;pair8 9;all;repeat 1;");
        row.enrol(0);
        Edge.due("of 512", 9, row.leak(0));
    }

    private static void leakAndLeft() {
        Edge.of(Edge.TERMS, "LEAK of what is ENROLLED: for each BLOCK n less its SECRET bits, and 4.");
        int[][] due = {{1, 1, 4}, {16, 1, 4}, {3, 3, 6}, {6, 3, 8}, {5, 5, 8}, {7, 7, 10}, {7, 0, 7}, {28, 0, 16}, {28, 7, 28}};
        for (int[] d : due) {
            SlipSecret x = Check.told(Texts.eight(d[0], ""));
            x.set(4, d[1]);
            x.enrol(0);
            Edge.due(d[0] + " pairs, repeat " + d[1], d[2], x.leak(1));
        }
        Edge.of(Edge.TERMS, "TOLD: SURE of its PAIRS less LEAK (0 at least).");
        // Pairs of ring 0 are free of one another: 2 to as many.
        int[][] told = {{1, 0}, {3, 0}, {4, 0}, {5, 1}, {7, 3}};
        for (int[] d : told) {
            SlipSecret x = Check.told(Texts.eight(d[0], "repeat 1;"));
            x.enrol(0);
            Edge.due(d[0] + " free pairs", d[1], x.leak(2));
        }
        Edge.of(Edge.TERMS, "LEFT: SECRETS of as many bits with the CHECK for which HELPER gives BITS that there can be.");
        SlipSecret one = Check.told("ring 2 0 0;ring 1 0 0;pair 0 1;repeat 1;");
        one.enrol(0);
        Edge.due("one bit: 1 has another check", 1, one.leak(3));
        SlipSecret free = Check.told(Texts.eight(4, "repeat 1;"));
        free.enrol(5);
        Edge.due("four bits: each has a check of its own", 1, free.leak(3));
        free = Check.told(Texts.eight(5, "repeat 1;"));
        free.enrol(5);
        Edge.due("five free bits: two of each check", 2, free.leak(3));
        free = Check.told(Texts.eight(7, "repeat 1;"));
        free.enrol(5);
        Edge.due("seven free bits: eight of each check", 8, free.leak(3));
        // A circle of three: with one bit turned, the secret itself gives bits that cannot be.
        SlipSecret three = Check.told("ring 3 0 0;ring 2 0 0;ring 1 0 0;pair 0 1;pair 1 2;pair 0 2;repeat 1;");
        three.enrol(0);
        Edge.due("three bits, in order", 1, three.leak(3));
        three.turn(2);
        Edge.due("three bits, in a circle", 0, three.leak(3));
    }
}
