/** Edges of promises 21 to 27: what comes back, how surely, and what is given away. */
final class EdgesOfSecrets {
    private static final int LEAST = Integer.MIN_VALUE;
    private static final int MOST = Integer.MAX_VALUE;

    private EdgesOfSecrets() {
    }

    static void all() {
        recover();
        recoverRefused();
        fails();
        failsRefused();
        safe();
        safeRefused();
        range();
        guardFor();
        ways();
        leak();
        leakRefused();
    }

    private static SlipSecret enrolled(String text, int secret) {
        SlipSecret x = Check.told(text);
        x.enrol(secret);
        return x;
    }

    private static void recover() {
        Edge.of(21, "A READING at a HEAT by a SEED (0 to 65,536): 0 the SECRET that is RECOVERED, 1 RAW, 2 CORRECTED, 3 1 REFUSED, 0 not, 4 1 RIGHT, 0 not, 5 the SEED behind it.");
        SlipSecret still = enrolled(Texts.eight(28, "hamming;"), 65535);
        Edge.row("no noise, seed 0", new long[] {65535, 0, 0, 0, 1, 0}, what -> still.recover(20, 0, what));
        Edge.row("no noise, seed 65,536", new long[] {65535, 0, 0, 0, 1, 65536}, what -> still.recover(20, 65536, what));
        SlipSecret zero = enrolled(Texts.eight(1, "repeat 1;"), 0);
        Edge.row("a secret of 0", new long[] {0, 0, 0, 0, 1, 7}, what -> zero.recover(-40, 7, what));
        zero.turn(0);
        Edge.row("turned", new long[] {1, 0, 0, 1, 0, 7}, what -> zero.recover(125, 7, what));
        SlipSecret draw = enrolled(Texts.ONE_DRAW, 1);
        Edge.row("one draw from 0", new long[] {1, 0, 0, 0, 1, 74}, what -> draw.recover(20, 0, what));
        Edge.row("one draw from 65,536, which stays", new long[] {1, 0, 0, 0, 1, 65536}, what -> draw.recover(20, 65536, what));
        Edge.row("one draw that goes round", new long[] {1, 0, 0, 0, 1, 12}, what -> draw.recover(20, 873, what));
        Edge.row("one draw that goes round to 0", new long[] {1, 0, 0, 0, 1, 0}, what -> draw.recover(20, 45438, what));
        Edge.due("asked twice, from the same seed", 74, draw.recover(20, 0, 5));
        // Alike but for a draw of -1, 0 or 1: 0 is drawn from 45438, which is -1; 149 from 1, which is 1.
        draw.wear(1, 0, 100);
        Edge.row("slower by the draw", new long[] {0, 1, 0, 1, 0, 0}, what -> draw.recover(20, 45438, what));
        Edge.row("faster by the draw", new long[] {1, 0, 0, 0, 1, 149}, what -> draw.recover(20, 1, what));
        SlipSecret hot = enrolled("ring 100 0 0;ring 95 10 0;pair 0 1;repeat 1;", 1);
        Edge.row("alike at 25", new long[] {1, 0, 0, 0, 1, 0}, what -> hot.recover(25, 0, what));
        Edge.row("turned at 26", new long[] {0, 1, 0, 1, 0, 0}, what -> hot.recover(26, 0, what));
    }

    private static void recoverRefused() {
        for (int seed : new int[] {-1, 65537, LEAST, MOST}) {
            Edge.refused("seed " + seed, Edge.ARGUMENT, Texts::rich, x -> x.recover(20, seed, 0));
        }
        for (int what : new int[] {-1, 6, LEAST, MOST}) {
            Edge.refused("what " + what, Edge.ARGUMENT, Texts::rich, x -> x.recover(20, 0, what));
        }
        for (int heat : new int[] {-41, 126, LEAST, MOST}) {
            Edge.refused("heat " + heat, Edge.ARGUMENT, Texts::rich, x -> x.recover(heat, 0, 0));
        }
        Edge.refused("all wrong at once", Edge.ARGUMENT, Texts::rich, x -> x.recover(126, -1, 6));
        Edge.of(21, "IllegalStateException: nothing is ENROLLED (ahead of others).");
        Edge.refused("nothing", Edge.STATE, Texts::four, x -> x.recover(20, 0, 0));
        Edge.refused("nothing, and heat", Edge.STATE, Texts::four, x -> x.recover(126, 0, 0));
        Edge.refused("nothing, and seed", Edge.STATE, Texts::four, x -> x.recover(20, 65537, 0));
        Edge.refused("nothing, and what", Edge.STATE, Texts::four, x -> x.recover(20, 0, 6));
    }

    private static void fails() {
        Edge.of(22, "So many READINGS (1 to 60), one behind the other, the SEED going on: 0 how many are not RIGHT, 1 how many of these are not REFUSED, 2 the most RAW ones of any.");
        // A draw a reading, -1, 0 or 1 on one of two alike rings: a draw that 3 divides turns the bit.
        SlipSecret x = enrolled("ring 100 0 1;ring 100 0 0;pair 0 1;all;repeat 1;", 1);
        for (int seed : new int[] {0, 1, 872, 873, 45438, 65535, 65536}) {
            int wrong = 0;
            int s = seed;
            for (int many = 1; many <= 60; many++) {
                s = (75 * s + 74) % 65537;
                wrong += s % 3 == 0 ? 1 : 0;
                if (many == 1 || many == 2 || many >= 59) {
                    int n = many;
                    long[] due = {wrong, 0, wrong > 0 ? 1 : 0};
                    Edge.row(many + " from " + seed, due, what -> x.fails(20, seed, n, what));
                }
            }
        }
        SlipSecret still = enrolled(Texts.eight(5, "repeat 1;"), 0);
        Edge.row("all right", new long[] {0, 0, 0}, what -> still.fails(20, 0, 60, what));
        still.turn(0);
        Edge.row("none right, each refused", new long[] {60, 0, 0}, what -> still.fails(20, 0, 60, what));
        // 1 0 0 1 1 has the check of 0.
        still.turn(3);
        still.turn(4);
        Edge.row("none right, none refused", new long[] {60, 60, 0}, what -> still.fails(20, 0, 60, what));
        still.wear(0, 0, 0);
        Edge.row("all turned", new long[] {1, 0, 5}, what -> still.fails(20, 0, 1, what));
        SlipSecret most = enrolled(Texts.eight(28, "hamming;"), 0);
        for (int i = 0; i < 8; i++) {
            most.wear(i, 0, 10 * i);
        }
        Edge.due("the most raw ones there can be", 28, most.fails(20, 0, 60, 2));
    }

    private static void failsRefused() {
        for (int many : new int[] {0, -1, 61, LEAST, MOST}) {
            Edge.refused("many " + many, Edge.ARGUMENT, Texts::rich, x -> x.fails(20, 0, many, 0));
        }
        for (int seed : new int[] {-1, 65537, LEAST, MOST}) {
            Edge.refused("seed " + seed, Edge.ARGUMENT, Texts::rich, x -> x.fails(20, seed, 1, 0));
        }
        for (int what : new int[] {-1, 3, LEAST, MOST}) {
            Edge.refused("what " + what, Edge.ARGUMENT, Texts::rich, x -> x.fails(20, 0, 1, what));
        }
        for (int heat : new int[] {-41, 126, LEAST, MOST}) {
            Edge.refused("heat " + heat, Edge.ARGUMENT, Texts::rich, x -> x.fails(heat, 0, 1, 0));
        }
        Edge.refused("all wrong at once", Edge.ARGUMENT, Texts::rich, x -> x.fails(126, -1, 0, 3));
        Edge.refused("nothing enrolled", Edge.STATE, Texts::four, x -> x.fails(20, 0, 1, 0));
        Edge.refused("nothing enrolled, and all else", Edge.STATE, Texts::four, x -> x.fails(126, -1, 0, 3));
        Edge.refused("nothing enrolled, and many", Edge.STATE, Texts::four, x -> x.fails(20, 0, 61, 0));
    }

    private static void safe() {
        Edge.of(23, "At a HEAT: 0 SHAKY PAIRS, 1 SAFE BLOCKS, 2 the first BLOCK that is not SAFE (NONE).");
        SlipSecret x = enrolled(Texts.eight(28, "repeat 7;"), 0);
        Edge.row("all safe", new long[] {0, 4, -1}, what -> x.safe(20, what));
        x.wear(7, 2, 40);
        // Ring 7 gets up to 50, above rings 4 to 6, and as fast as ring 3, which stays ahead.
        Edge.row("three pairs of ring 7", new long[] {3, 4, -1}, what -> x.safe(20, what));
        x.turn(21);
        Edge.row("the last block is not", new long[] {3, 3, 3}, what -> x.safe(20, what));
        for (int i = 0; i < 4; i++) {
            x.turn(i);
        }
        Edge.row("nor is the first", new long[] {3, 2, 0}, what -> x.safe(20, what));
        for (int i = 7; i < 18; i++) {
            x.turn(i);
        }
        Edge.row("none is", new long[] {3, 0, 0}, what -> x.safe(20, what));
        SlipSecret last = enrolled(Texts.eight(28, "hamming;"), 0);
        last.turn(26);
        last.turn(27);
        Edge.row("the last two places of the last block", new long[] {0, 3, 3}, what -> last.safe(20, what));
        SlipSecret hot = enrolled("ring 100 0 0;ring 95 10 0;pair 0 1;repeat 1;", 1);
        Edge.row("at 25, alike", new long[] {0, 1, -1}, what -> hot.safe(25, what));
        Edge.row("at 26", new long[] {1, 0, 0}, what -> hot.safe(26, what));
        Edge.row("at the coldest", new long[] {0, 1, -1}, what -> hot.safe(-40, what));
        Edge.row("at the hottest", new long[] {1, 0, 0}, what -> hot.safe(125, what));
        SlipSecret all = enrolled(Texts.eight(28, "repeat 1;"), 0);
        all.wear(0, 0, 0);
        Edge.row("sixteen blocks, seven turned", new long[] {7, 9, 0}, what -> all.safe(20, what));
        all.wear(0, 0, 80);
        all.turn(15);
        Edge.row("the sixteenth", new long[] {0, 15, 15}, what -> all.safe(20, what));
    }

    private static void safeRefused() {
        for (int what : new int[] {-1, 3, LEAST, MOST}) {
            Edge.refused("what " + what, Edge.ARGUMENT, Texts::rich, x -> x.safe(20, what));
        }
        for (int heat : new int[] {-41, 126, LEAST, MOST}) {
            Edge.refused("heat " + heat, Edge.ARGUMENT, Texts::rich, x -> x.safe(heat, 0));
        }
        Edge.of(23, "IllegalStateException: nothing is ENROLLED (ahead of others).");
        Edge.refused("nothing", Edge.STATE, Texts::four, x -> x.safe(20, 0));
        Edge.refused("nothing, and heat", Edge.STATE, Texts::four, x -> x.safe(126, 0));
        Edge.refused("nothing, and what", Edge.STATE, Texts::four, x -> x.safe(20, 3));
    }

    /** The least and the greatest heat of a text whose pairs are all enrolled, one a block. */
    private static void range(String what, int least, int greatest, String text) {
        SlipSecret x = enrolled(text + "all;repeat 1;", 0);
        Edge.due(what + ", the least", least, x.range(0));
        Edge.due(what + ", the greatest", greatest, x.range(1));
    }

    private static void range() {
        Edge.of(24, "HEATS next to one another, 20 with them, at all of which all BLOCKS are SAFE: the least (what 0), the greatest (1); 999: they are not at 20.");
        range("all", -40, 125, "ring 2 0 0;ring 1 0 0;pair 0 1;");
        range("to 25, where they are alike", -40, 25, "ring 100 0 0;ring 95 10 0;pair 0 1;");
        range("to 24, as alike turns it", -40, 24, "ring 95 10 0;ring 100 0 0;pair 0 1;");
        range("from 15 on", 15, 125, "ring 100 0 0;ring 95 -10 0;pair 0 1;");
        range("from the coldest but one", -39, 125, "ring 159 0 0;ring 100 -10 0;pair 0 1;");
        range("from the coldest", -40, 125, "ring 160 0 0;ring 100 -10 0;pair 0 1;");
        range("to the hottest but one", -40, 124, "ring 204 0 0;ring 100 10 0;pair 0 1;");
        range("to the hottest", -40, 125, "ring 205 0 0;ring 100 10 0;pair 0 1;");
        range("to 20", -40, 20, "ring 100 0 0;ring 100 10 0;pair 0 1;");
        range("from 20 on", 20, 125, "ring 100 0 0;ring 100 -10 0;pair 0 1;");
        range("20 alone", 20, 20, "ring 100 10 0;ring 100 0 0;ring 100 10 0;pair 0 1;pair 1 2;");
        range("not at 20", 999, 999, "ring 100 0 1;ring 100 0 0;pair 0 1;");
        // Safe at 25 and 26 again, but not next to 20: see the gap at 24.
        range("a gap at 24", -40, 23, "ring 1000 2 0;ring 1000 3 0;pair 0 1;");
        range("a gap at 16", 17, 125, "ring 1000 3 0;ring 1000 2 0;pair 0 1;");
        SlipSecret gap = enrolled("ring 1000 2 0;ring 1000 3 0;pair 0 1;all;repeat 1;", 0);
        Edge.due("behind the gap", 1, gap.safe(25, 1));
        SlipSecret turned = enrolled(Texts.eight(3, ""), 0);
        turned.turn(0);
        Edge.due("one turned is put right", -40, turned.range(0));
        turned.turn(1);
        Edge.due("two are not", 999, turned.range(0));
        Edge.due("two are not", 999, turned.range(1));
        for (int what : new int[] {-1, 2, LEAST, MOST}) {
            Edge.refused("what " + what, Edge.ARGUMENT, Texts::rich, x -> x.range(what));
        }
        Edge.of(24, "IllegalStateException: likewise.");
        Edge.refused("nothing enrolled", Edge.STATE, Texts::four, x -> x.range(0));
        Edge.refused("nothing enrolled, and what", Edge.STATE, Texts::four, x -> x.range(2));
    }

    private static void guardFor() {
        Edge.of(25, "The greatest GUARD (0 to 999) by which there would be so many BLOCKS (1 to 28) at least, ALL 0; NONE: by none.");
        // The base of the faster ring, so the margin, and the guard.
        int[][] due = {{0, -1}, {1, 0}, {2, 1}, {999, 998}, {1000, 999}, {1001, 999}, {9999, 999}};
        for (int[] d : due) {
            SlipSecret x = Check.told("ring " + d[0] + " 0 0;ring 0 0 0;pair 0 1;repeat 1;");
            Edge.due("margin " + d[0], d[1], x.guardFor(1));
            if (d[1] >= 0) {
                x.set(0, d[1]);
                Edge.due("margin " + d[0] + ", with it", 1, x.told(4));
            }
        }
        for (int noise = 5; noise <= 8; noise++) {
            SlipSecret x = Check.told("ring 5 0 " + noise + ";ring 0 0 0;pair 0 1;repeat 1;");
            Edge.due("a margin of " + (5 - noise), -1, x.guardFor(1));
        }
        SlipSecret near = Check.told("ring 72 0 0;ring 2 0 0;ring 3 0 0;ring 1 0 0;pair 0 1;pair 0 2;pair 0 3;repeat 1;");
        Edge.row("margins 70, 69, 71", new long[] {70, 69, 68}, i -> near.guardFor(1 + i));
        Edge.due("no pairs", -1, new SlipSecret().guardFor(1));
        Edge.due("no pairs, 28", -1, new SlipSecret().guardFor(28));
        // Margins of 28 pairs: seven of 10, six of 20 .. one of 70.
        SlipSecret x = Check.told(Texts.eight(28, "repeat 1;"));
        int[][] ones = {{1, 69}, {2, 59}, {3, 59}, {4, 49}, {6, 49}, {7, 39}, {15, 29}, {16, 19}, {17, -1}, {28, -1}};
        for (int[] d : ones) {
            Edge.due(d[0] + " blocks of one", d[1], x.guardFor(d[0]));
        }
        x.set(3, 1);
        x.set(0, 999);
        Edge.due("all, and a guard, tell nothing", 69, x.guardFor(1));
        int[][] others = {{3, 1, 59}, {3, 7, 19}, {3, 8, 9}, {3, 9, 9}, {3, 10, -1}, {5, 5, 9}, {5, 6, -1}, {7, 4, 9}, {7, 5, -1},
            {0, 1, 39}, {0, 4, 9}, {0, 5, -1}};
        for (int[] d : others) {
            x.set(4, d[0]);
            Edge.due("repeat " + d[0] + ", " + d[1] + " blocks", d[2], x.guardFor(d[1]));
        }
        for (int blocks : new int[] {0, -1, 29, LEAST, MOST}) {
            Edge.refused("blocks " + blocks, Edge.ARGUMENT, Texts::rich, y -> y.guardFor(blocks));
        }
    }

    private static void ways() {
        Edge.of(26, "WAYS of all PAIRS (what 0), of USED ones (1), of ENROLLED ones (2; 0 if nothing is).");
        Edge.row("no rings", new long[] {1, 1, 0}, what -> new SlipSecret().ways(what));
        Edge.row("one ring", new long[] {1, 1, 0}, what -> Check.told("ring 1 1 1;").ways(what));
        SlipSecret x = Check.told(Texts.eight(28, "guard 999;repeat 1;"));
        Edge.row("none used", new long[] {40320, 1, 0}, what -> x.ways(what));
        x.set(0, 69);
        Edge.row("one used", new long[] {40320, 2, 0}, what -> x.ways(what));
        x.enrol(0);
        x.set(3, 1);
        Edge.row("all used, one enrolled", new long[] {40320, 40320, 2}, what -> x.ways(what));
        x.undo();
        x.undo();
        Edge.due("taken back", 0, x.ways(2));
        SlipSecret circle = Check.told("ring0 0 0;".repeat(10) + "pair0 1;pair1 2;pair2 3;pair3 4;pair4 5;pair5 6;"
                + "pair6 7;pair7 8;pair8 9;pair9 0;");
        Edge.due("ten in a circle", 1022, circle.ways(0));
        SlipSecret most = Check.told("ring0 0 0;".repeat(10) + "pair0 5;pair0 6;pair0 7;pair0 8;pair0 9;pair1 5;pair1 6;pair1 7;"
                + "pair1 8;pair1 9;pair2 5;pair2 6;pair2 7;pair2 8;pair2 9;pair3 5;pair3 6;pair3 7;pair3 8;pair3 9;"
                + "pair4 5;pair4 6;pair4 7;pair4 8;pair4 9;");
        Edge.due("five against five", 329462, most.ways(0));
        for (int what : new int[] {-1, 3, LEAST, MOST}) {
            Edge.refused("what " + what, Edge.ARGUMENT, Texts::rich, y -> y.ways(what));
            Edge.refused("what " + what + " of nothing", Edge.ARGUMENT, Texts::none, y -> y.ways(what));
        }
    }

    private static void leak() {
        Edge.of(27, "0 SURE of ENROLLED PAIRS, 1 LEAK, 2 TOLD, 3 LEFT, 4 LEFT to who knows the HEARD BITS, too.");
        SlipSecret one = enrolled(Texts.eight(1, "repeat 1;"), 0);
        Edge.row("one pair", new long[] {1, 4, 0, 1, 1}, one::leak);
        one.hear(0);
        Edge.row("one pair, heard", new long[] {1, 4, 0, 1, 1}, one::leak);
        one.turn(0);
        Edge.row("one pair, heard, and turned", new long[] {1, 4, 0, 1, 0}, one::leak);
        SlipSecret five = enrolled(Texts.eight(5, "repeat 1;"), 0);
        Edge.row("five free pairs", new long[] {5, 4, 1, 2, 2}, five::leak);
        // The other one is 1 0 0 1 1: it gives pair 1 the same bit, and pair 0 another.
        five.hear(1);
        Edge.row("five, one heard that tells nothing", new long[] {5, 4, 1, 2, 2}, five::leak);
        five.hear(0);
        Edge.row("five, one heard that tells it", new long[] {5, 4, 1, 2, 1}, five::leak);
        SlipSecret most = enrolled(Texts.eight(28, "hamming;"), 65535);
        Edge.due("28 pairs, sure", 15, most.leak(0));
        Edge.due("28 pairs, leak", 16, most.leak(1));
        Edge.due("28 pairs, told", 0, most.leak(2));
        for (int i = 0; i < 28; i++) {
            most.hear(i);
        }
        Edge.due("all heard", 1, most.leak(4));
        leakByOrder();
        leakOfSixteen();
    }

    /** Sixteen blocks, as many as there can be: each secret is tried. */
    private static void leakOfSixteen() {
        SlipSecret x = enrolled(Texts.eight(28, "repeat 1;"), 65535);
        x.hear(27);
        x.hear(15);
        int check = x.told(17);
        int left = 0;
        int known = 0;
        for (int secret = 0; secret < 65536; secret++) {
            if (checkOf(secret) == check) {
                // All bits are 1, as are the secret's: the helper is 0.
                left += Texts.hasOrder(secret, 65535) ? 1 : 0;
                known += (secret >> 15 & 1) == 1 && Texts.hasOrder(secret | 1 << 27, 65535 | 1 << 27) ? 1 : 0;
            }
        }
        Edge.due("sixteen bits, left", left, x.leak(3));
        Edge.due("sixteen bits, left to who listens", known, x.leak(4));
        Edge.due("not all", 1, known < left && left < 4096 ? 1 : 0);
    }

    private static int checkOf(int secret) {
        int sum = 0;
        for (int i = 0; i < 16; i++) {
            sum = 2 * sum + (secret >> i & 1);
            sum = sum > 15 ? sum - 16 ^ 3 : sum;
        }
        return sum;
    }

    private static void leakByOrder() {
        // Pairs 0 1, 0 2, 1 2: heard are 0 1 and 1 2, which are not enrolled, and tell 0 2, which is.
        SlipSecret x = Check.told("ring 9 0 0;ring 8 0 0;ring 1 0 0;pair 0 2;pair 0 1;pair 1 2;guard 7;repeat 1;");
        x.enrol(0);
        Edge.due("one enrolled", 1, x.told(14));
        x.turn(0);
        Edge.due("nothing heard", 1, x.leak(4));
        x.hear(1);
        Edge.due("0 ahead of 1 tells nothing of 0 and 2", 1, x.leak(4));
        x.hear(2);
        Edge.due("by order it can't be", 0, x.leak(4));
        Edge.due("to who heard nothing it can", 1, x.leak(3));
        x.turn(0);
        Edge.due("by order it can", 1, x.leak(4));
        x.wear(2, 0, 10);
        x.hear(0);
        Edge.due("what was heard goes round: none can be", 0, x.leak(4));
    }

    private static void leakRefused() {
        for (int what : new int[] {-1, 5, LEAST, MOST}) {
            Edge.refused("what " + what, Edge.ARGUMENT, Texts::rich, x -> x.leak(what));
        }
        Edge.of(27, "IllegalStateException: nothing is ENROLLED (ahead of others).");
        for (int what : new int[] {0, 1, 2, 3, 4, -1, 5, LEAST, MOST}) {
            Edge.refused("nothing, what " + what, Edge.STATE, Texts::four, x -> x.leak(what));
        }
    }
}
