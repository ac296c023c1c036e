/** Edges of promises 5 to 11: what changes, and what is taken back. */
final class EdgesOfChanges {
    private static final int LEAST = Integer.MIN_VALUE;
    private static final int MOST = Integer.MAX_VALUE;

    private EdgesOfChanges() {
    }

    static void all() {
        set();
        setRefused();
        wear();
        wearRefused();
        enrol();
        enrolRefused();
        hear();
        train();
        trainRefused();
        turn();
        turnRefused();
        undoEach();
        undoTwelve();
        undoBranches();
    }

    private static void set() {
        Edge.of(5, "0 GUARD, 1 LOW, 2 HIGH, 3 ALL, 4 REPEAT from now on: what it was.");
        // What, what it is told by, and values one behind the other.
        int[][] runs = {{0, 0, 0, 999, 0, 1}, {1, 20, -40, 20, 20, -40}, {2, 20, 125, 20, 20, 125}, {3, 0, 1, 1, 0, 0},
            {4, 3, 0, 1, 3, 5, 7, 0}};
        for (int[] run : runs) {
            SlipSecret x = Texts.four();
            for (int i = 2; i < run.length; i++) {
                String what = "set " + run[0] + " to " + run[i];
                Edge.due(what, run[i - 1], x.set(run[0], run[i]));
                Edge.due(what + ", told", run[i], x.told(6 + run[0]));
                Edge.due(what + ", can be taken back", i - 1, x.told(11));
            }
        }
        SlipSecret x = Texts.four();
        x.enrol(1);
        x.hear(0);
        x.set(4, 1);
        Edge.due("what is enrolled stays", 3, x.told(14));
        Edge.due("what was heard stays", 1, x.told(13));
        x.set(2, 125);
        Edge.due("low may be high", 20, x.set(1, 125));
        Edge.due("high stays", 125, x.told(8));
        x.set(1, -40);
        Edge.due("high may be low", 125, x.set(2, -40));
        Edge.due("low stays", -40, x.told(7));
    }

    private static void setRefused() {
        Edge.of(5, "IllegalArgumentException: another argument (so below).");
        int[][] wrong = {{0, -1}, {0, 1000}, {0, LEAST}, {0, MOST}, {1, -41}, {1, 23}, {1, 126}, {1, LEAST}, {1, MOST},
            {2, -1}, {2, -41}, {2, 126}, {2, LEAST}, {2, MOST}, {3, -1}, {3, 2}, {3, LEAST}, {3, MOST}, {4, -1}, {4, 2},
            {4, 4}, {4, 6}, {4, 8}, {4, 9}, {4, LEAST}, {4, MOST}, {-1, 0}, {5, 0}, {5, 3}, {LEAST, 0}, {MOST, 0},
            {-1, -1}, {5, 1000}, {MOST, MOST}};
        for (int[] w : wrong) {
            // Rich has low 0 and high 22.
            Edge.refused("set " + w[0] + " to " + w[1], Edge.ARGUMENT, Texts::rich, x -> x.set(w[0], w[1]));
        }
        Edge.refused("low above high at first", Edge.ARGUMENT, Texts::none, x -> x.set(1, 21));
        Edge.refused("high below low at first", Edge.ARGUMENT, Texts::none, x -> x.set(2, 19));
        Edge.refused("with a past that is full", Edge.ARGUMENT, Texts::full, x -> x.set(0, 1000));
        SlipSecret x = Texts.rich();
        Edge.due("low as high is", 0, x.set(1, 22));
        Edge.due("high as low is", 22, x.set(2, 22));
    }

    private static void wear() {
        Edge.of(6, "0 BASE, 1 DRIFT, 2 NOISE of a RING from now on (a slip gets old): what it was.");
        int[][] runs = {{0, 0, 100, 0, 9999, 9999, 0}, {3, 0, 95, 1, 9998}, {3, 1, 10, -99, 99, 0, 0}, {1, 2, 2, 0, 50, 1}};
        for (int[] run : runs) {
            SlipSecret x = Texts.four();
            for (int i = 3; i < run.length; i++) {
                String what = "wear " + run[0] + " " + run[1] + " to " + run[i];
                Edge.due(what, run[i - 1], x.wear(run[0], run[1], run[i]));
                Edge.due(what + ", ring", run[i], x.ring(run[0], run[1]));
                Edge.due(what + ", can be taken back", i - 2, x.told(11));
            }
        }
        SlipSecret x = Texts.four();
        x.hear(0);
        x.enrol(1);
        x.wear(0, 0, 0);
        Edge.due("a bit now", 0, x.pair(0, 2));
        Edge.due("a bit as heard", 1, x.pair(0, 6));
        Edge.due("a bit as enrolled", 1, x.pair(0, 10));
    }

    private static void wearRefused() {
        Edge.of(6, "NoSuchElementException: no such RING, PAIR, BLOCK (so below, ahead of others).");
        for (int ring : new int[] {-1, 4, 9, 10, LEAST, MOST}) {
            Edge.refused("ring " + ring, Edge.MISSING, Texts::rich, x -> x.wear(ring, 0, 0));
            Edge.refused("ring " + ring + " and a wrong what", Edge.MISSING, Texts::rich, x -> x.wear(ring, 3, 0));
            Edge.refused("ring " + ring + " and a wrong value", Edge.MISSING, Texts::rich, x -> x.wear(ring, 0, -1));
        }
        Edge.refused("no rings at all", Edge.MISSING, Texts::none, x -> x.wear(0, -1, -1));
        int[][] wrong = {{0, -1}, {0, 10000}, {1, -100}, {1, 100}, {2, -1}, {2, 51}, {-1, 0}, {3, 0}, {0, LEAST}, {0, MOST},
            {1, LEAST}, {1, MOST}, {2, LEAST}, {2, MOST}, {LEAST, 0}, {MOST, 0}, {3, -1}};
        for (int[] w : wrong) {
            Edge.refused("what " + w[0] + " to " + w[1], Edge.ARGUMENT, Texts::rich, x -> x.wear(3, w[0], w[1]));
        }
        Edge.refused("ring, and what", Edge.MISSING, Texts::rich, x -> x.ring(4, 5));
        Edge.refused("speed, and heat", Edge.MISSING, Texts::rich, x -> x.speed(4, 126));
        Edge.refused("rank, and heat", Edge.MISSING, Texts::rich, x -> x.rank(4, 126));
        Edge.refused("pair, and what", Edge.MISSING, Texts::rich, x -> x.pair(4, 11));
        Edge.refused("bit, and heat", Edge.MISSING, Texts::rich, x -> x.bit(4, 126));
        Edge.refused("flips, and what", Edge.MISSING, Texts::rich, x -> x.flips(4, 2));
        Edge.refused("odds, and heat", Edge.MISSING, Texts::rich, x -> x.odds(4, 126, true));
    }

    private static void enrol() {
        Edge.of(7, "ENROLLED with a SECRET (IllegalArgumentException: below 0, or not less than 2 to as many as SECRET bits): how many BLOCKS.");
        // Pairs, repeat, blocks, secret bits.
        int[][] due = {{1, 1, 1, 1}, {5, 3, 1, 1}, {6, 3, 2, 2}, {7, 0, 1, 4}, {16, 1, 16, 16}, {17, 1, 16, 16}, {28, 0, 4, 16},
            {28, 7, 4, 4}};
        for (int[] d : due) {
            String text = Texts.eight(d[0], d[1] == 0 ? "hamming;" : "repeat " + d[1] + ";");
            int end = 1 << d[3];
            for (int secret : new int[] {0, end - 1}) {
                SlipSecret x = Check.told(text);
                Edge.due(d[0] + " pairs, repeat " + d[1] + ", secret " + secret, d[2], x.enrol(secret));
                Edge.due("is kept", secret, x.told(16));
                Edge.due("and comes back", secret, x.recover(20, 0, 0));
                Edge.due("and can be taken back", 1, x.told(11));
            }
            for (int secret : new int[] {-1, end, LEAST, MOST}) {
                SlipSecret x = Check.told(text);
                Edge.same("secret " + secret + " of " + d[3] + " bits", Edge.ARGUMENT, Check.outcome(() -> x.enrol(secret)));
                Edge.due("nothing is kept", -1, x.told(16));
            }
        }
        for (int secret : new int[] {-1, 2, LEAST, MOST}) {
            Edge.refused("secret " + secret, Edge.ARGUMENT, Texts::four, x -> x.enrol(secret));
            Edge.refused("secret " + secret + " over another", Edge.ARGUMENT, Texts::rich, x -> x.enrol(secret));
        }
        SlipSecret again = Texts.rich();
        Edge.due("again", 1, again.enrol(0));
        Edge.due("the new secret", 0, again.told(16));
        Edge.row("the new helper", new long[] {1, 1, 1, -1}, pair -> again.pair(pair, 9));
        Edge.due("the helper is as at first", 1, again.safe(20, 1));
        again.undo();
        Edge.due("the old secret", 1, again.told(16));
        SlipSecret worn = Texts.four();
        worn.enrol(1);
        worn.wear(0, 0, 0);
        worn.enrol(1);
        Edge.row("bits as they are at the new one", new long[] {0, 1, 0, -1}, pair -> worn.pair(pair, 10));
        Edge.row("helper, too", new long[] {1, 0, 1, -1}, pair -> worn.pair(pair, 9));
    }

    /** Enrolled, and then without blocks. */
    private static SlipSecret unused() {
        SlipSecret x = Texts.four();
        x.enrol(1);
        x.set(0, 999);
        return x;
    }

    private static void enrolRefused() {
        Edge.of(7, "IllegalStateException: there are no BLOCKS (ahead of IllegalArgumentException).");
        for (int secret : new int[] {0, 1, -1, 2, LEAST, MOST}) {
            Edge.refused("no rings, secret " + secret, Edge.STATE, Texts::none, x -> x.enrol(secret));
            Edge.refused("none steady, secret " + secret, Edge.STATE, EdgesOfChanges::unused, x -> x.enrol(secret));
            Edge.refused("one pair too few, secret " + secret, Edge.STATE, () -> Check.told(Texts.eight(6, "hamming;")), x -> x.enrol(secret));
        }
        SlipSecret x = unused();
        Check.outcome(() -> x.enrol(0));
        Edge.due("what was enrolled stays", 1, x.told(16));
    }

    private static void hear() {
        Edge.of(8, "BIT of a PAIR is HEARD (again: as it is now, in its old place): it.");
        SlipSecret x = Texts.four();
        Edge.due("the last pair", 0, x.hear(3));
        Edge.due("the first pair", 1, x.hear(0));
        Edge.due("two", 2, x.told(13));
        x.wear(3, 0, 101);
        Edge.due("again", 1, x.hear(3));
        Edge.due("as it is now", 1, x.pair(3, 6));
        Edge.due("two still", 2, x.told(13));
        Edge.due("four can be taken back", 4, x.told(11));
        // Rings 1 and 2 are faster than 0: who learns 0 2 first guesses 0 1 right then, and 1 stays 0.
        SlipSecret y = Check.told("ring 1 0 0;ring 2 0 0;ring 3 0 0;pair 0 1;pair 1 2;pair 0 2;");
        y.hear(2);
        y.hear(0);
        y.hear(2);
        Edge.due("one wrong", 1, y.train(1));
        Edge.row("weights, in the old places", new long[] {-1, 0, 1}, ring -> y.ring(ring, 3));
        SlipSecret z = Check.told(Texts.eight(28, ""));
        for (int i = 0; i < 28; i++) {
            Edge.due("pair " + i, 1, z.hear(i));
            z.hear(i);
        }
        Edge.due("all heard", 28, z.told(13));
        for (int pair : new int[] {-1, 4, 27, 28, 31, 32, LEAST, MOST}) {
            Edge.refused("pair " + pair, Edge.MISSING, Texts::rich, r -> r.hear(pair));
        }
        Edge.refused("no pairs", Edge.MISSING, Texts::none, r -> r.hear(0));
    }

    private static void train() {
        Edge.of(9, "So many EPOCHS (1 to 50): how many wrong GUESSES there were in the last one.");
        SlipSecret none = Texts.four();
        Edge.due("nothing heard, 1", 0, none.train(1));
        Edge.due("nothing heard, 50", 0, none.train(50));
        Edge.due("can be taken back, too", 2, none.told(11));
        Edge.due("without rings", 0, new SlipSecret().train(50));
        SlipSecret x = Check.told("ring 1 0 0;ring 2 0 0;pair 0 1;");
        x.hear(0);
        Edge.due("one epoch", 1, x.train(1));
        Edge.due("the next one", 0, x.train(1));
        Edge.due("one weight", 1, x.ring(1, 3));
        // A circle: wrong in 1, then in all of 3 each epoch; weights come and go.
        SlipSecret circle = circle();
        Edge.due("fifty epochs of a circle", 3, circle.train(50));
        Edge.row("weights", new long[] {-1, 0, 1}, ring -> circle.ring(ring, 3));
        SlipSecret step = circle();
        int last = 0;
        for (int i = 0; i < 50; i++) {
            last = step.train(1);
        }
        Edge.due("one by one", 3, last);
        Edge.due("weights one by one", -1, step.ring(0, 3));
    }

    /** 0 ahead of 1, 1 of 2, 2 of 0 were heard, as ring 2 got faster in between. */
    private static SlipSecret circle() {
        SlipSecret x = Check.told("ring 3 0 0;ring 2 0 0;ring 1 0 0;pair 0 1;pair 1 2;pair 0 2;");
        x.hear(0);
        x.hear(1);
        x.wear(2, 0, 9);
        x.hear(2);
        return x;
    }

    private static void trainRefused() {
        for (int epochs : new int[] {0, -1, 51, LEAST, MOST}) {
            Edge.refused("epochs " + epochs, Edge.ARGUMENT, Texts::rich, x -> x.train(epochs));
        }
        Edge.refused("nothing heard", Edge.ARGUMENT, Texts::none, x -> x.train(0));
    }

    private static void turn() {
        Edge.of(10, "A bit of HELPER of an ENROLLED PAIR (the k-th of these) is turned: it then.");
        SlipSecret x = Texts.four();
        x.enrol(0);
        Edge.due("the first", 0, x.turn(0));
        Edge.due("the last", 0, x.turn(2));
        Edge.due("the last again", 1, x.turn(2));
        Edge.row("helper", new long[] {0, 1, 1, -1}, pair -> x.pair(pair, 9));
        Edge.due("each can be taken back", 4, x.told(11));
        // Margins above 15 have 0 2, 0 3 .. of eight rings: the k-th is not pair k.
        SlipSecret some = Check.told(Texts.eight(9, "guard 15;repeat 1;"));
        some.enrol(0);
        some.turn(0);
        Edge.due("pair 0 is in none", -1, some.pair(0, 9));
        Edge.due("the first is pair 1", 0, some.pair(1, 9));
        SlipSecret most = Check.told(Texts.eight(28, "hamming;"));
        most.enrol(65535);
        Edge.due("the 28th", 1, most.turn(27));
        Edge.due("of the last pair", 1, most.pair(27, 9));
    }

    private static void turnRefused() {
        for (int k : new int[] {-1, 3, 4, 28, 31, 32, LEAST, MOST}) {
            Edge.refused("the " + k + "-th", Edge.MISSING, Texts::rich, x -> x.turn(k));
        }
        Edge.of(10, "IllegalStateException: nothing is ENROLLED (ahead of others).");
        for (int k : new int[] {0, -1, 3, LEAST, MOST}) {
            Edge.refused("the " + k + "-th of nothing", Edge.STATE, Texts::four, x -> x.turn(k));
        }
        Edge.refused("enrolled, and taken back", Edge.STATE, EdgesOfChanges::takenBack, x -> x.turn(0));
        Edge.refused("enrolled, and told anew", Edge.STATE, EdgesOfChanges::toldAnew, x -> x.turn(0));
    }

    private static SlipSecret takenBack() {
        SlipSecret x = Texts.four();
        x.enrol(1);
        x.undo();
        return x;
    }

    private static SlipSecret toldAnew() {
        SlipSecret x = Texts.four();
        x.enrol(1);
        Check.tell(x, Texts.FOUR);
        return x;
    }

    private static void undoEach() {
        Edge.of(11, "All is as ahead of the latest set(), wear(), enrol(), hear(), train(), turn() (the latest 12 can be taken back): how many still can;");
        Edge.Ask[] changes = {x -> x.set(0, 9), x -> x.set(1, -1), x -> x.set(2, 30), x -> x.set(3, 0), x -> x.set(4, 1),
            x -> x.wear(0, 0, 1), x -> x.wear(1, 1, 9), x -> x.wear(2, 2, 9), x -> x.enrol(0), x -> x.hear(0),
            x -> x.hear(3), x -> x.train(1), x -> x.train(50), x -> x.turn(0), x -> x.turn(2)};
        for (int i = 0; i < changes.length; i++) {
            SlipSecret x = Texts.rich();
            changes[i].answer(x);
            Edge.due("change " + i + " can be taken back", 11, x.told(11));
            Edge.due("how many still can behind change " + i, 10, x.undo());
            Edge.stays("change " + i, Texts::rich, x);
        }
        for (int i = 0; i < changes.length; i++) {
            // The same change, as the oldest one that can be taken back.
            SlipSecret x = Texts.rich();
            changes[i].answer(x);
            for (int j = 0; j < 11; j++) {
                x.set(0, 100 + j);
            }
            for (int j = 11; j >= 0; j--) {
                Edge.due("back to change " + i, j, x.undo());
            }
            Edge.due("none is left", -1, x.undo());
            SlipSecret y = Texts.rich();
            Edge.same("ahead of change " + i, withoutPast(y), withoutPast(x));
        }
    }

    /** A look at what is there, after all that can be forgotten of the past was. */
    private static String withoutPast(SlipSecret x) {
        StringBuilder out = new StringBuilder();
        for (int what = 0; what <= 17; what++) out.append(what == 11 ? 0 : x.told(what)).append(' ');
        for (int ring = 0; ring < 4; ring++) {
            for (int what = 0; what <= 4; what++) out.append(x.ring(ring, what)).append(' ');
        }
        for (int pair = 0; pair < 4; pair++) {
            for (int what = 0; what <= 10; what++) out.append(x.pair(pair, what)).append(' ');
        }
        return out.append(x.recover(125, 3, 2)).append(' ').append(x.leak(4)).toString();
    }

    private static void undoTwelve() {
        for (int many = 1; many <= 40; many++) {
            SlipSecret x = new SlipSecret();
            for (int i = 1; i <= many; i++) {
                x.set(0, i);
            }
            int can = Math.min(many, 12);
            Edge.due("told of " + many, can, x.told(11));
            for (int i = 1; i <= can; i++) {
                Edge.due("undo " + i + " of " + many, can - i, x.undo());
                Edge.due("guard", many - i, x.told(6));
            }
            Edge.due("no more of " + many, -1, x.undo());
            Edge.due("the oldest stays", many - can, x.told(6));
        }
        Edge.of(11, "NONE: none could.");
        Edge.due("a new object", -1, new SlipSecret().undo());
        Edge.due("a text told", -1, Texts.four().undo());
        SlipSecret x = Texts.full();
        for (int i = 0; i < 12; i++) {
            x.undo();
        }
        SlipSecret y = Texts.rich();
        Edge.due("twelve of twelve", -1, x.undo());
        Edge.due("and again", -1, x.undo());
        Edge.due("none can", 0, x.told(11));
        Edge.same("all stays", withoutPast(y), withoutPast(x));
        Edge.due("that is no refusal", 0, x.status(0) + x.status(1) + x.status(2));
    }

    /** All 28 pairs enrolled and heard, the last one first. */
    private static SlipSecret most() {
        SlipSecret x = Check.told(Texts.eight(28, "hamming;"));
        x.wear(6, 0, 5);
        for (int i = 27; i >= 0; i--) x.hear(i);
        x.enrol(42);
        return x;
    }

    private static void undoOfTheMost() {
        SlipSecret x = most();
        x.wear(0, 0, 1);
        x.hear(0);
        x.enrol(65535);
        x.turn(27);
        for (int i = 0; i < 4; i++) x.undo();
        SlipSecret y = most();
        for (int pair = 0; pair < 28; pair++) {
            Edge.due("helper of " + pair, y.pair(pair, 9), x.pair(pair, 9));
            Edge.due("enrolled bit of " + pair, y.pair(pair, 10), x.pair(pair, 10));
            Edge.due("heard bit of " + pair, y.pair(pair, 6), x.pair(pair, 6));
        }
        Edge.due("the secret", 42, x.recover(20, 0, 0));
        Edge.due("the helper is as at first", 4, x.safe(20, 1));
        x.train(1);
        y.train(1);
        for (int ring = 0; ring < 8; ring++) {
            Edge.due("weights, by the order heard", y.ring(ring, 3), x.ring(ring, 3));
        }
    }

    private static void undoBranches() {
        SlipSecret x = new SlipSecret();
        x.set(0, 1);
        x.set(0, 2);
        x.undo();
        x.set(0, 3);
        Edge.due("what was taken back is gone", 1, x.undo());
        Edge.due("guard", 1, x.told(6));
        Edge.due("and the one ahead", 0, x.undo());
        Edge.due("guard", 0, x.told(6));
        Edge.due("none", -1, x.undo());
        SlipSecret full = Texts.full();
        full.undo();
        full.undo();
        full.set(0, 500);
        Edge.due("eleven", 11, full.told(11));
        full.set(0, 501);
        full.set(0, 502);
        Edge.due("twelve", 12, full.told(11));
        Edge.due("back", 11, full.undo());
        Edge.due("guard", 501, full.told(6));
        undoOfTheMost();
        SlipSecret refused = Texts.rich();
        Check.outcome(() -> refused.set(0, 1000));
        Check.outcome(() -> refused.hear(4));
        Edge.due("refused calls are not taken back", 9, refused.undo());
        Edge.due("nor is their count", 2, refused.status(0) + refused.status(1));
    }
}
