import java.math.BigInteger;

/** Edges of promises 28 to 33, and of what the terms say of one who listens. */
final class EdgesOfListening {
    private static final int LEAST = Integer.MIN_VALUE;
    private static final int MOST = Integer.MAX_VALUE;
    /** In order of their bases: 0, 1, 2, 3. */
    private static final String DOWN =
            "ring 4 0 0;ring 3 0 0;ring 2 0 0;ring 1 0 0;pair 2 3;pair 0 1;pair 1 2;pair 0 2;pair 0 3;";
    /** Guessed wrong by number, each. */
    private static final String UP = "ring 1 0 0;ring 2 0 0;ring 3 0 0;ring 4 0 0;pair 0 1;pair 1 2;pair 0 2;pair 2 3;";
    /** A circle of four, and one pair across it. */
    private static final String CIRCLE =
            "ring 4 0 0;ring 3 0 0;ring 2 0 0;ring 1 0 0;pair 0 1;pair 1 2;pair 2 3;pair 0 3;pair 0 2;";

    private EdgesOfListening() {
    }

    static void all() {
        heard();
        follows();
        tellsBoth();
        model();
        next();
        success();
        curve();
        curveEpochs();
        nextPair();
        needs();
        print();
        status();
    }

    private static void heard() {
        Edge.of(Edge.TERMS, "WHO LISTENS knows BITS of PAIRS that were HEARD (none at first; as they were then), in order.");
        SlipSecret x = Check.told(UP);
        Edge.due("none at first", 0, x.told(13));
        Edge.due("none at first", -1, x.pair(0, 6));
        x.hear(0);
        x.wear(0, 0, 9);
        Edge.due("as it was then", 0, x.pair(0, 6));
        Edge.due("though it is not now", 1, x.pair(0, 2));
        // 2 ahead of 0 tells 1 ahead of 0 by weights, too; or the other way round.
        SlipSecret one = Check.told(UP);
        one.hear(2);
        one.hear(0);
        Edge.due("2, then 0", 1, one.train(1));
        Edge.row("weights", new long[] {-1, 0, 1, 0}, ring -> one.ring(ring, 3));
        SlipSecret two = Check.told(UP);
        two.hear(0);
        two.hear(2);
        Edge.due("0, then 2", 1, two.train(1));
        Edge.row("weights", new long[] {-1, 1, 0, 0}, ring -> two.ring(ring, 3));
    }

    private static void follows() {
        Edge.of(Edge.TERMS, "FOLLOWS: a PAIR's BIT, if RINGS' order by HEARD ones (each: with 1 a is ahead of b, else b of a; who is ahead of one that is ahead of a third is ahead of that) tells it; not, if it tells both.");
        StringBuilder chain = new StringBuilder();
        for (int i = 0; i < 10; i++) chain.append("ring").append(90 - 9 * i).append(" 0 0;");
        // The odd ones are told the other way round.
        for (int i = 0; i < 9; i++) chain.append("pair").append(i % 2 == 0 ? i + " " + (i + 1) : (i + 1) + " " + i).append(';');
        String text = chain + "pair0 9;pair9 1;";
        SlipSecret none = Check.told(text);
        Edge.due("nothing heard", -1, none.pair(9, 7));
        for (int left = -1; left < 9; left++) {
            SlipSecret up = Check.told(text);
            SlipSecret down = Check.told(text);
            for (int i = 0; i < 9; i++) {
                if (i != left) up.hear(i);
                if (8 - i != left) down.hear(8 - i);
            }
            Edge.due("all but " + left + ", upwards", left < 0 ? 1 : -1, up.pair(9, 7));
            Edge.due("all but " + left + ", downwards", left < 0 ? 1 : -1, down.pair(9, 7));
            Edge.due("all but " + left + ", the other way round", left <= 0 ? 0 : -1, up.pair(10, 7));
        }
        SlipSecret one = Check.told(text);
        one.hear(1);
        Edge.due("what was heard follows", 0, one.pair(1, 7));
        Edge.due("nothing else does", 1, one.success(0));
    }

    /** All of the circle heard, ring 3 being the fastest in the end. */
    private static SlipSecret circle() {
        SlipSecret x = Check.told(CIRCLE);
        x.hear(0);
        x.hear(1);
        x.hear(2);
        x.wear(3, 0, 99);
        x.hear(3);
        return x;
    }

    private static void tellsBoth() {
        SlipSecret x = circle();
        for (int pair = 0; pair < 5; pair++) {
            Edge.due("pair " + pair + " of a circle", -1, x.pair(pair, 7));
        }
        x.undo();
        x.undo();
        Edge.row("without its last one", new long[] {1, 1, 1, 1, 1}, pair -> x.pair(pair, 7));
        // A circle of three, and ring 3 behind it: who is in the circle is ahead of 3, not of one another.
        SlipSecret tail = Check.told("ring 4 0 0;ring 3 0 0;ring 2 0 0;ring 1 0 0;pair 0 1;pair 1 2;pair 0 2;pair 2 3;pair 3 0;");
        tail.hear(0);
        tail.hear(1);
        tail.hear(3);
        tail.wear(2, 0, 9);
        tail.hear(2);
        Edge.row("a circle, and one behind it", new long[] {-1, -1, -1, 1, 0}, pair -> tail.pair(pair, 7));
    }

    private static void model() {
        Edge.of(Edge.TERMS, "A MODEL: a WEIGHT for each RING (0 at first); it GUESSES 1 for a PAIR, if a's is greater, or they are alike and a is less than b, else 0.");
        SlipSecret x = Check.told("ring 1 0 0;ring 2 0 0;ring 3 0 0;pair 0 1;pair 2 1;pair 2 0;");
        Edge.row("weights at first", new long[] {0, 0, 0}, ring -> x.ring(ring, 3));
        Edge.row("guesses at first", new long[] {1, 0, 0}, pair -> x.pair(pair, 8));
        x.hear(0);
        x.train(1);
        Edge.row("weights", new long[] {-1, 1, 0}, ring -> x.ring(ring, 3));
        Edge.row("guesses", new long[] {0, 0, 1}, pair -> x.pair(pair, 8));
        Edge.of(Edge.TERMS, "An EPOCH: HEARD PAIRS in order: if it GUESSES wrong, a's WEIGHT is 1 more, b's 1 less (if the BIT is 0: the other way).");
        SlipSecret y = Check.told("ring 1 0 0;ring 2 0 0;ring 3 0 0;pair 0 1;pair 2 1;pair 2 0;");
        y.hear(1);
        Edge.due("a bit of 1 guessed 0", 1, y.train(1));
        Edge.row("a is 1 more, b 1 less", new long[] {0, -1, 1}, ring -> y.ring(ring, 3));
        y.hear(0);
        // 1 ahead of 0, but 0 has 0 and 1 has -1: wrong, alike then the other way.
        Edge.due("a bit of 0 guessed 1", 1, y.train(1));
        Edge.row("b is 1 more, a 1 less", new long[] {-1, 0, 1}, ring -> y.ring(ring, 3));
        Edge.due("none wrong", 0, y.train(50));
        Edge.row("the weights stay", new long[] {-1, 0, 1}, ring -> y.ring(ring, 3));
    }

    private static void next() {
        Edge.of(Edge.TERMS, "NEXT to be HEARD: of PAIRS that were not HEARD and whose BIT does not FOLLOW that by which most PAIRS' BITS would FOLLOW then, be it 0 or 1 (the fewer of both; of alike ones the first).");
        SlipSecret x = Check.told(DOWN);
        Edge.due("all alike: the first", 0, x.nextPair());
        x.hear(0);
        // 0 ahead of 2 would tell 0 ahead of 3, too; 2 ahead of 0 nothing else: two, as the others.
        Edge.due("the fewer of both, all alike: the first left", 1, x.nextPair());
        x.hear(1);
        // 2 ahead of 3, 0 of 1. 1 2: all five, or three. 0 2: four, or four. 0 3: three, or five.
        Edge.due("four, be it 0 or 1", 3, x.nextPair());
        x.hear(3);
        // 0 ahead of 1, and of 2 and 3: 1 2 alone is left.
        Edge.due("what follows is not next", 2, x.nextPair());
        x.hear(2);
        Edge.due("none is left", -1, x.nextPair());
        // The same with a pair of two other rings ahead: it would tell three, be it 0 or 1.
        SlipSecret apart = Check.told("ring 4 0 0;ring 3 0 0;ring 2 0 0;ring 1 0 0;ring 0 0 0;ring 0 0 0;"
                + "pair 4 5;pair 2 3;pair 0 1;pair 1 2;pair 0 2;pair 0 3;");
        apart.hear(1);
        apart.hear(2);
        Edge.due("four of six, be it 0 or 1", 4, apart.nextPair());
        SlipSecret both = circle();
        Edge.due("order tells both, so it does not follow", 4, both.nextPair());
        both.hear(4);
        Edge.due("heard, though it does not follow", -1, both.nextPair());
    }

    private static void success() {
        Edge.of(28, "PAIRS: 0 whose BIT FOLLOWS, 1 that were not HEARD and are GUESSED right (by BITS as they are), 2 HEARD ones that are GUESSED as HEARD, 3 whose BIT FOLLOWS otherwise than it is.");
        SlipSecret none = new SlipSecret();
        Edge.row("no pairs", new long[] {0, 0, 0, 0}, none::success);
        SlipSecret down = Check.told(DOWN);
        Edge.row("nothing heard, all guessed right", new long[] {0, 5, 0, 0}, down::success);
        SlipSecret up = Check.told(UP);
        Edge.row("nothing heard, all guessed wrong", new long[] {0, 0, 0, 0}, up::success);
        for (int i = 0; i < 4; i++) up.hear(i);
        Edge.row("all heard, all guessed wrong", new long[] {4, 0, 0, 0}, up::success);
        up.train(50);
        Edge.row("all heard and learnt", new long[] {4, 0, 4, 0}, up::success);
        up.wear(0, 0, 9);
        up.wear(1, 0, 8);
        up.wear(2, 0, 7);
        up.wear(3, 0, 6);
        Edge.row("all worn to the other way", new long[] {4, 0, 4, 4}, up::success);
        SlipSecret some = Check.told(DOWN);
        some.hear(0);
        some.hear(3);
        Edge.row("two heard, a third follows", new long[] {3, 3, 2, 0}, some::success);
        some.wear(3, 0, 5);
        // Ring 3 is the fastest: 2 3 and 0 3 are otherwise than they follow; 0 3 is guessed wrong now.
        Edge.row("one worn", new long[] {3, 2, 2, 2}, some::success);
        Edge.row("a circle", new long[] {0, 1, 3, 0}, what -> circle().success(what));
        for (int what : new int[] {-1, 4, LEAST, MOST}) {
            Edge.refused("what " + what, Edge.ARGUMENT, Texts::rich, x -> x.success(what));
            Edge.refused("what " + what + " of nothing", Edge.ARGUMENT, Texts::none, x -> x.success(what));
        }
    }

    private static void curve() {
        Edge.of(29, "Had only BITS (as they are) of the first so many PAIRS (0 to all) been HEARD, WEIGHTS 0 at first, EPOCHS until one without a wrong GUESS, 50 at most: 0 how many EPOCHS, 1 PAIRS behind the first so many (those that were not HEARD) that are GUESSED right then, 2 such of the first so many.");
        SlipSecret none = new SlipSecret();
        Edge.row("no pairs", new long[] {1, 0, 0}, what -> none.curve(0, what));
        SlipSecret down = Check.told(DOWN);
        Edge.row("none of five", new long[] {1, 5, 0}, what -> down.curve(0, what));
        Edge.row("four of five", new long[] {1, 1, 4}, what -> down.curve(4, what));
        Edge.row("all five", new long[] {1, 0, 5}, what -> down.curve(5, what));
        SlipSecret up = Check.told(UP);
        Edge.row("none of four", new long[] {1, 0, 0}, what -> up.curve(0, what));
        // -1 1 0 0 then: 1 2 is guessed 1 and wrong, 0 2 right, 2 3 alike and wrong.
        Edge.row("one of four", new long[] {2, 1, 1}, what -> up.curve(1, what));
        // Weights, and what was heard as it was then, tell nothing.
        SlipSecret other = Check.told(UP);
        for (int i = 0; i < 4; i++) other.hear(i);
        other.train(50);
        Edge.row("none, though all were heard", new long[] {1, 0, 0}, what -> other.curve(0, what));
        Edge.row("one, though all were heard", new long[] {2, 1, 1}, what -> other.curve(1, what));
        other.wear(0, 0, 9);
        other.wear(1, 0, 8);
        other.wear(2, 0, 7);
        other.wear(3, 0, 6);
        Edge.row("bits as they are now", new long[] {1, 0, 4}, what -> other.curve(4, what));
        for (int heard : new int[] {-1, 5, 28, LEAST, MOST}) {
            Edge.refused("heard " + heard, Edge.ARGUMENT, Texts::rich, x -> x.curve(heard, 0));
        }
        for (int what : new int[] {-1, 3, LEAST, MOST}) {
            Edge.refused("what " + what, Edge.ARGUMENT, Texts::rich, x -> x.curve(0, what));
        }
        Edge.refused("both", Edge.ARGUMENT, Texts::rich, x -> x.curve(5, 3));
        Edge.refused("one of none", Edge.ARGUMENT, Texts::none, x -> x.curve(1, 0));
    }

    private static void curveEpochs() {
        // Bits as they are have an order, so 50 epochs are never used up; 16 are the most that a search found.
        SlipSecret slow = Check.told("ring2 0 0;ring3 0 0;ring4 0 0;ring5 0 0;ring0 0 0;ring6 0 0;ring7 0 0;ring1 0 0;"
                + "ring8 0 0;ring9 0 0;pair3 8;pair2 1;pair9 8;pair0 1;pair4 1;pair2 4;pair7 9;pair6 3;pair7 6;"
                + "pair6 8;pair7 4;pair5 6;pair5 3;pair0 7;pair9 1;pair5 8;pair4 6;pair3 2;");
        Edge.row("one that learns slowly", new long[] {16, 0, 18}, what -> slow.curve(18, what));
        for (int i = 0; i < 18; i++) slow.hear(i);
        Edge.due("as trained: wrong ones in the 15th epoch", 1, Math.min(1, slow.train(15)));
        Edge.due("and none in the 16th", 0, slow.train(1));
        SlipSecret most = Check.told(Texts.eight(28, ""));
        Edge.row("28 of 28", new long[] {1, 0, 28}, what -> most.curve(28, what));
        Edge.same("29 of 28", Edge.ARGUMENT, Check.outcome(() -> most.curve(29, 0)));
    }

    private static void nextPair() {
        Edge.of(30, "NEXT; NONE: there is none.");
        Edge.due("no pairs", -1, new SlipSecret().nextPair());
        Edge.due("no pairs, but rings", -1, Check.told("ring 1 1 1;ring 1 1 1;").nextPair());
        SlipSecret one = Check.told("ring 1 0 0;ring 2 0 0;pair 0 1;");
        Edge.due("one pair", 0, one.nextPair());
        one.hear(0);
        Edge.due("one pair, heard", -1, one.nextPair());
        one.undo();
        Edge.due("one pair, taken back", 0, one.nextPair());
        SlipSecret all = Check.told(Texts.eight(28, ""));
        for (int i = 0; i < 28; i++) all.hear(i);
        Edge.due("all heard", -1, all.nextPair());
        SlipSecret last = Check.told(Texts.eight(28, ""));
        for (int i = 0; i < 27; i++) last.hear(i);
        Edge.due("all but the last, which does not follow", 27, last.nextPair());
        SlipSecret row = Check.told(Texts.eight(28, ""));
        for (int i : new int[] {0, 7, 13, 18, 22, 25, 27}) row.hear(i);
        Edge.due("neighbours heard, all others follow", -1, row.nextPair());
    }

    private static void needs() {
        Edge.of(31, "How many PAIRS would be HEARD, each the NEXT one (its BIT as it is), until there is none.");
        Edge.due("no pairs", 0, new SlipSecret().needs());
        SlipSecret one = Check.told("ring 1 0 0;ring 2 0 0;pair 0 1;");
        Edge.due("one pair", 1, one.needs());
        one.hear(0);
        Edge.due("one pair, heard", 0, one.needs());
        for (String text : new String[] {Texts.eight(28, ""), Texts.eight(7, ""), DOWN, UP}) {
            SlipSecret x = Check.told(text);
            int needs = x.needs();
            int many = 0;
            for (int next = x.nextPair(); next >= 0 && many < 29; next = x.nextPair()) {
                x.hear(next);
                many++;
                Edge.due("one less", needs - many, x.needs());
            }
            Edge.due("as many as were heard", many, needs);
            Edge.due("nothing stayed", many, x.told(13));
        }
        Edge.due("seven that tell nothing of one another", 7, Check.told(Texts.eight(7, "")).needs());
        // By bits as they are: DOWN needs 2 3, 0 1, 0 2 and 1 2.
        Edge.due("four of five", 4, Check.told(DOWN).needs());
        SlipSecret worn = Check.told(DOWN);
        worn.hear(0);
        worn.hear(1);
        worn.wear(2, 0, 9);
        // 0 2 is 0 now: 2 ahead of 0 and of 1; 0 3 alone is left.
        Edge.due("bits as they are now", 2, worn.needs());
        Edge.due("a circle", 1, circle().needs());
    }

    private static void print() {
        Edge.of(32, "From 0 on, of all PAIRS in order: 31 times what there is, and BIT, 31 times that, and MARGIN.");
        Edge.due("no pairs", 0, new SlipSecret().print());
        Edge.due("no pairs, but rings", 0, Check.told("ring 5 5 5;").print());
        Edge.due("one pair", 31 + 9999, Check.told("ring 9999 0 0;ring 0 0 0;pair 0 1;").print());
        Edge.due("one pair, bit 0", 9999, Check.told("ring 0 0 0;ring 9999 0 0;pair 0 1;").print());
        Edge.due("one pair, below 0", 31 - 100, Check.told("ring 0 0 50;ring 0 0 50;pair 0 1;").print());
        Edge.due("one pair, all below 0", -100, Check.told("ring 0 0 50;ring 0 0 50;pair 1 0;").print());
        Edge.due("two pairs", 31 * (31 * (31 + 1)) + 2, Check.told("ring 3 0 0;ring 2 0 0;ring 0 0 0;pair 0 1;pair 2 1;").print());
        SlipSecret most = Check.told(Texts.eight(28, ""));
        BigInteger sum = BigInteger.ZERO;
        BigInteger times = BigInteger.valueOf(31);
        for (int i = 0; i < 28; i++) {
            sum = sum.multiply(times).add(BigInteger.ONE);
            sum = sum.multiply(times).add(BigInteger.valueOf(most.pair(i, 3)));
        }
        Edge.due("28 pairs, going round", sum.longValue(), most.print());
        most.set(0, 999);
        most.hear(0);
        Edge.due("guard and who listens tell nothing", sum.longValue(), most.print());
    }

    private static void status() {
        Edge.of(33, "How many calls were refused: 0 NoSuchElementException, 1 IllegalArgumentException, 2 IllegalStateException; NONE for others.");
        SlipSecret x = new SlipSecret();
        for (int what : new int[] {-1, 3, 4, LEAST, MOST}) {
            Edge.due("status " + what, -1, x.status(what));
        }
        Edge.row("nothing refused, these neither", new long[] {0, 0, 0}, x::status);
        Check.outcome(() -> x.hear(0));
        Edge.row("no such pair", new long[] {1, 0, 0}, x::status);
        Check.outcome(() -> x.told(18));
        Edge.row("another argument", new long[] {1, 1, 0}, x::status);
        Check.outcome(() -> x.range(0));
        Edge.row("nothing enrolled", new long[] {1, 1, 1}, x::status);
        Check.outcome(() -> x.recover(126, -1, 6));
        Check.outcome(() -> x.wear(0, 3, -1));
        Check.outcome(() -> x.curve(-1, -1));
        Edge.row("several reasons, one call each", new long[] {2, 2, 2}, x::status);
        x.undo();
        x.feed(0, 0, 0, 0, 0);
        x.text(1);
        x.nextPair();
        x.set(0, 1);
        x.undo();
        Edge.row("NONE and faults are no refusals, and nothing is taken back", new long[] {2, 2, 2}, x::status);
        for (int i = 0; i < 400; i++) {
            Check.outcome(() -> x.turn(0));
        }
        Edge.due("many", 402, x.status(2));
        SlipSecret other = new SlipSecret();
        Edge.row("another object's", new long[] {0, 0, 0}, other::status);
    }
}
