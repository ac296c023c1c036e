/** Edges of promises 1 to 4: a new object, the tape, texts and their faults. */
final class EdgesOfText {
    private static final String TWO_RINGS = "ring0 0 0;ring0 0 0;";

    private EdgesOfText() {
    }

    static void all() {
        newObject();
        newObjectRefuses();
        feed();
        length();
        lines();
        numbersAndWords();
        outOfPlace();
        noSuchNumber();
        tooMany();
        toldAlready();
        toldTwice();
        text();
        textTellsAnew();
        textWithFault();
        textRefused();
        fault();
    }

    private static void newObject() {
        Edge.of(1, "No RINGS; SETTINGS as at first; nothing ENROLLED.");
        SlipSecret x = new SlipSecret();
        long[] told = {0, 0, 0, 0, 0, 0, 0, 20, 20, 0, 3, 0, 0, 0, -1, -1, -1, -1};
        Edge.row("told", told, x::told);
        Edge.row("ways", new long[] {1, 1, 0}, x::ways);
        Edge.row("success", new long[] {0, 0, 0, 0}, x::success);
        Edge.row("curve of none", new long[] {1, 0, 0}, what -> x.curve(0, what));
        Edge.row("status", new long[] {0, 0, 0, -1}, x::status);
        Edge.due("fault", -1, x.fault());
        Edge.due("nextPair", -1, x.nextPair());
        Edge.due("needs", 0, x.needs());
        Edge.due("print", 0, x.print());
        Edge.due("guardFor", -1, x.guardFor(1));
        Edge.due("undo", -1, x.undo());
        Edge.due("NONE", -1, SlipSecret.NONE);
    }

    private static void newObjectRefuses() {
        refuses("ring", Edge.MISSING, x -> x.ring(0, 0));
        refuses("speed", Edge.MISSING, x -> x.speed(0, 20));
        refuses("rank", Edge.MISSING, x -> x.rank(0, 20));
        refuses("wear", Edge.MISSING, x -> x.wear(0, 0, 0));
        refuses("pair", Edge.MISSING, x -> x.pair(0, 0));
        refuses("bit", Edge.MISSING, x -> x.bit(0, 20));
        refuses("flips", Edge.MISSING, x -> x.flips(0, 0));
        refuses("odds", Edge.MISSING, x -> x.odds(0, 20, true));
        refuses("hear", Edge.MISSING, x -> x.hear(0));
        refuses("block", Edge.MISSING, x -> x.block(0, 0));
        refuses("enrol", Edge.STATE, x -> x.enrol(0));
        refuses("turn", Edge.STATE, x -> x.turn(0));
        refuses("recover", Edge.STATE, x -> x.recover(20, 0, 0));
        refuses("fails", Edge.STATE, x -> x.fails(20, 0, 1, 0));
        refuses("safe", Edge.STATE, x -> x.safe(20, 0));
        refuses("range", Edge.STATE, x -> x.range(0));
        refuses("leak", Edge.STATE, x -> x.leak(0));
        refuses("text", Edge.ARGUMENT, x -> x.text(1));
        refuses("curve", Edge.ARGUMENT, x -> x.curve(1, 0));
    }

    private static void refuses(String what, String reason, Edge.Ask ask) {
        Edge.refused(what, reason, Texts::none, ask);
    }

    private static void feed() {
        Edge.of(2, "Twenty bytes come on the TAPE, of each number the highest first: how many there are;");
        SlipSecret x = new SlipSecret();
        // "heat" "s-1 " "2;al" "l;gu" "ard5", and of the next one ";" alone.
        Edge.due("the first", 20, x.feed(0x68656174, 0x732d3120, 0x323b616c, 0x6c3b6775, 0x61726435));
        Edge.due("the second", 40, x.feed(0x3b202020, 0x20202020, 0x20202020, 0x20202020, 0x20202020));
        Edge.due("read", 0, x.text(40));
        Edge.row("told", new long[] {5, -1, 2, 1}, i -> x.told(6 + i));
        Edge.due("from 20 on again", 20, x.feed(-1, -1, -1, -1, -1));
        Edge.due("bytes of 255", -9, x.text(1));
        for (int number : new int[] {0x80000000, 0x7fffffff, 0x00202020, 0x1f202020, 0x21202020, 0xa0202020}) {
            SlipSecret y = new SlipSecret();
            y.feed(number, 0, 0, 0, 0);
            Edge.due("the first byte of " + number, -9, y.text(4));
            Edge.due("its place", 0, y.fault());
        }
        SlipSecret low = new SlipSecret();
        low.feed(0x202020ff, 0, 0, 0, 0);
        Edge.due("the lowest byte comes last", 0, low.text(3));
        low.feed(0x202020ff, 0x20202020, 0, 0, 0);
        Edge.due("and is one of the text's", -9, low.text(8));
        Edge.due("at 3", 3, low.fault());

        Edge.of(2, "NONE, doing nothing, if there would be more than 400.");
        String whole = Texts.eight(28, "") + " ".repeat(80) + "guard 7;";
        SlipSecret full = new SlipSecret();
        Check.feed(full, whole);
        Edge.due("the text has 400", 400, whole.length());
        Edge.due("400 are no more than 400", 400, full.told(12));
        Edge.due("20 more", -1, full.feed(0x78787878, 0x78787878, 0x78787878, 0x78787878, 0x78787878));
        Edge.due("and again", -1, full.feed(0, 0, 0, 0, 0));
        Edge.due("as many as there were", 400, full.told(12));
        Edge.due("a refusal that is none", 0, full.status(0) + full.status(1) + full.status(2));
        Edge.due("the text as it was", 28, full.text(400));
        Edge.due("to its end", 7, full.told(6));
        SlipSecret y = Texts.rich();
        Check.feed(y, " ".repeat(360));
        Edge.due("380 and 20", 400, y.feed(0, 0, 0, 0, 0));
        Edge.due("400 and 20", -1, y.feed(0, 0, 0, 0, 0));
        Edge.due("feed can't be taken back", 10, y.told(11));
        Edge.due("what can", 9, y.undo());
        Edge.due("leaves the tape", 400, y.told(12));
    }

    private static void length() {
        Edge.of(Edge.TERMS, "A TEXT has up to 400 bytes: { LINE \";\" }: \"ring\" B D N | \"pair\" A B (of RINGS told ahead) | \"guard\" N | \"heats\" H H | \"all\" | \"repeat\" R | \"hamming\".");
        Edge.good("", 0);
        Edge.good(" ".repeat(400), 0);
        Edge.good(" ".repeat(396) + "all;", 0);
        Edge.fault(" ".repeat(397) + "all", 1, 400);
        Edge.fault(" ".repeat(399) + ";", 1, 399);
        SlipSecret many = Edge.good("all;".repeat(100), 0);
        Edge.due("a hundred lines", 1, many.told(9));
        SlipSecret x = Edge.good(TWO_RINGS + "pair1 0;guard3;heats0 50;all;repeat5;", 1);
        Edge.row("told", new long[] {3, 0, 50, 1, 5}, i -> x.told(6 + i));
        Edge.due("a", 1, x.pair(0, 0));
        Edge.due("b", 0, x.pair(0, 1));
        SlipSecret y = Edge.good("hamming;" + TWO_RINGS, 0);
        Edge.due("hamming", 0, y.told(10));
        Edge.fault(";", 1, 0);
        Edge.fault("all;;", 1, 4);
        Edge.fault("all", 1, 3);
        Edge.fault("all hamming;", 1, 4);
    }

    private static void lines() {
        // Of rings told ahead: none, one that comes behind, the last one, one more.
        Edge.fault("pair 0 1;" + TWO_RINGS, 2, 5);
        Edge.fault("ring0 0 0;pair 0 1;ring0 0 0;", 2, 17);
        Edge.fault("ring0 0 0;pair 1 0;ring0 0 0;", 2, 15);
        Edge.good(TWO_RINGS + "pair 0 1;ring0 0 0;", 1);
        Edge.good("ring0 0 0;".repeat(10) + "pair 9 0;pair 0 8;", 2);
        Edge.fault("ring0 0 0;".repeat(10) + "pair 10 0;", 2, 105);
        Edge.fault("ring0 0 0;".repeat(10) + "pair 0 10;", 2, 107);
        Edge.fault("ring0 0 0;".repeat(9) + "pair 9 0;", 2, 95);
    }

    private static void numbersAndWords() {
        Edge.of(Edge.TERMS, "D, H: [\"-\"] a number.");
        SlipSecret x = Edge.good("ring 1 -0 0;ring 1 -7 0;heats -0 0;", 0);
        Edge.due("-0", 0, x.ring(0, 1));
        Edge.due("-7", -7, x.ring(1, 1));
        Edge.fault("ring -0 0 0;", 1, 5);
        Edge.fault("ring 0 0 -0;", 1, 9);
        Edge.fault("ring 0 --1 0;", 1, 8);
        Edge.fault("ring 0 +1 0;", 1, 7);
        Edge.fault("ring 0 -;", 1, 8);
        Edge.fault("heats -;", 1, 7);
        Edge.fault("heats 0 --1;", 1, 9);
        Edge.fault("guard -1;", 1, 6);
        Edge.fault("guard -0;", 1, 6);
        Edge.fault("repeat -1;", 1, 7);
        Edge.fault(TWO_RINGS + "pair -0 1;", 1, 25);
        Edge.fault(TWO_RINGS + "pair 0 -1;", 1, 27);

        Edge.of(Edge.TERMS, "Words: small letters, as many as stand there; numbers: digits, as many as stand there; blanks (32) may stand ahead of all these and of \";\", and at the end.");
        Edge.good("ring1 2 3;ring1-2 3;pair0 1;guard5;heats-4-3;repeat1;", 1);
        SlipSecret y = Edge.good("   ring   1   -2   3   ;   ring0 0 0;  pair  0  1  ;  guard  5  ;  all  ;   ", 1);
        Edge.due("drift", -2, y.ring(0, 1));
        Edge.due("guard", 5, y.told(6));
        // A number is digits, so blanks may stand ahead of it behind "-", too.
        SlipSecret apart = Edge.good("ring 1 -  2 3;heats - 9 - 8;", 0);
        Edge.row("a blank behind -", new long[] {-9, -8}, i -> apart.told(7 + i));
        Edge.fault("heats 0  -  41;", 2, 9);
        Edge.fault("heats -  x;", 1, 9);
        SlipSecret zeros = Edge.good("guard" + "0".repeat(300) + "7;", 0);
        Edge.due("zeros ahead", 7, zeros.told(6));
        Edge.fault("rin 1 2 3;", 1, 0);
        Edge.fault("rings 1 2 3;", 1, 0);
        Edge.fault("allall;", 1, 0);
        Edge.fault("al l;", 1, 0);
        Edge.fault("hammin;", 1, 0);
        Edge.fault("hammingg;", 1, 0);
        Edge.fault("repea 1;", 1, 0);
        Edge.fault("Ring 1 2 3;", 1, 0);
        Edge.fault("riNg 1 2 3;", 1, 0);
        Edge.fault("guard 9 9;", 1, 8);
        Edge.fault("guard 9x;", 1, 7);
        Edge.fault("all5;", 1, 3);
        Edge.fault("5all;", 1, 0);
        for (String word : new String[] {"ring", "pair", "guard", "heats", "all", "repeat", "hamming"}) {
            for (int i = 0; i < word.length(); i++) {
                String head = word.substring(0, i);
                String tail = word.substring(i + 1);
                Edge.fault(head + "a".repeat(word.charAt(i) == 'a' ? 2 : 1) + tail + " 1 1 1;", 1, 0);
                Edge.fault(head + "z" + tail + ";", 1, 0);
                Edge.fault(head + tail + ";", 1, 0);
            }
            Edge.fault(word + "a;", 1, 0);
            Edge.fault(word + "z;", 1, 0);
            Edge.fault("a" + word + ";", 1, 0);
        }
        // Signs next to blank, "0", "9", "a" and "z".
        for (char sign : new char[] {9, 10, 13, 31, 33, 160}) {
            Edge.fault(sign + "all;", 1, 0);
            Edge.fault("all" + sign + ";", 1, 3);
            Edge.fault("all;" + sign, 1, 4);
            Edge.fault("guard" + sign + "5;", 1, 5);
        }
        Edge.fault("guard /;", 1, 6);
        Edge.fault("guard :;", 1, 6);
        Edge.fault("guard 5/;", 1, 7);
        Edge.fault("guard 5:;", 1, 7);
        Edge.fault("`;", 1, 0);
        Edge.fault("{;", 1, 0);
        Edge.fault("all`;", 1, 3);
        Edge.fault("all{;", 1, 3);
    }

    private static void outOfPlace() {
        Edge.of(Edge.TERMS, "FAULTS, the first from the left, at its first byte: 1 what can't stand there (at the length, if the text ends too early);");
        String line = "ring 12 -3 4;";
        SlipSecret x = new SlipSecret();
        for (int n = 4; n < line.length(); n++) {
            Check.feed(x, line);
            Edge.due("the first " + n + " bytes", -9, x.text(n));
            Edge.due("its fault", n, x.fault());
        }
        for (String cut : new String[] {"pair", "guard", "heats", "heats 1", "heats -", "repeat", "hamming", "all", "guard 5", "all ",
            "heats 1 2  "}) {
            Edge.fault(cut, 1, cut.length());
        }
        Edge.fault("ring 1 2;", 1, 8);
        Edge.fault("ring;", 1, 4);
        Edge.fault("pair;", 1, 4);
        Edge.fault("repeat;", 1, 6);
        Edge.fault("heats 1;", 1, 7);
        Edge.fault("guard  x;", 1, 7);
        Edge.fault("  foo", 1, 2);
        Edge.fault("all;  foo;", 1, 6);
        // Two faults: that on the left is told, be it of this kind or another.
        Edge.fault("ring 10000 x", 2, 5);
        Edge.fault("ring x 100 51;", 1, 5);
        Edge.fault("ring 1 100 x;", 2, 7);
        Edge.fault("heats 126 -41;", 2, 6);
        Edge.fault("guard 1000", 2, 6);
        Edge.fault("foo;guard 1000;", 1, 0);
        Edge.fault("guard 1000;foo;", 2, 6);
        Edge.fault(TWO_RINGS + "pair 2 2;", 2, 25);
        Edge.fault(TWO_RINGS + "pair 0 x;", 1, 27);
        Edge.fault(TWO_RINGS + "pair 0 0 x", 2, 27);
    }

    private static void noSuchNumber() {
        Edge.of(Edge.TERMS, "2 a number that is none such (D, H at \"-\", if it has one; HIGH below LOW; B that is A);");
        Edge.fault("ring 1 -100 0;", 2, 7);
        Edge.fault("ring 1   -100 0;", 2, 9);
        Edge.fault("ring 1 100 0;", 2, 7);
        Edge.fault("heats -41 0;", 2, 6);
        Edge.fault("heats 0 -41;", 2, 8);
        Edge.fault("heats -1 -2;", 2, 9);
        Edge.fault("heats 1 0;", 2, 8);
        Edge.fault("heats 126 126;", 2, 6);
        Edge.fault("heats 125 126;", 2, 10);
        SlipSecret x = Edge.good("heats -40 -40;heats 125 125;", 0);
        Edge.due("low and high alike", 125, x.told(7));
        Edge.fault(TWO_RINGS + "pair 0 0;", 2, 27);
        Edge.fault(TWO_RINGS + "pair 1 01;", 2, 27);
        Edge.fault(TWO_RINGS + "pair 2 0;", 2, 25);
        // Numbers that wrap around to good ones: 2 to the 32, and 2 to the 64.
        Edge.fault("guard 4294967296;", 2, 6);
        Edge.fault("guard 18446744073709551616;", 2, 6);
        Edge.fault("heats -4294967296 0;", 2, 6);
        Edge.fault("repeat 4294967297;", 2, 7);
        Edge.fault("ring 1 0 4294967296;", 2, 9);
        Edge.fault("ring " + "9".repeat(300) + " 0 0;", 2, 5);
        Edge.fault(TWO_RINGS + "pair 0 4294967297;", 2, 27);
        Edge.good("guard 0;guard 999;", 0);
        Edge.fault("guard 1000;", 2, 6);
    }

    private static void tooMany() {
        Edge.of(Edge.TERMS, "3 an 11th ring, a 29th pair (at its word);");
        String ten = "ring0 0 0;".repeat(10);
        Edge.good(ten, 0);
        Edge.fault(ten + "ring0 0 0;", 3, 100);
        Edge.fault(ten + "  ring0 0 0;", 3, 102);
        Edge.fault(ten + "ring", 3, 100);
        Edge.fault(ten + "ring 10000 x", 3, 100);
        Edge.fault(ten + "ringx", 1, 100);
        String most = Texts.eight(28, "");
        Edge.good(most, 28);
        Edge.fault(most + "pair0 1;", 3, most.length());
        Edge.fault(most + " pair", 3, most.length() + 1);
        Edge.fault(most + "pair 9 9;", 3, most.length());
        SlipSecret x = Edge.good(most + "ring1 2 3;ring4 5 6;", 28);
        Edge.due("ten rings besides", 10, x.told(0));
        Edge.fault(most + "ring1 2 3;ring4 5 6;ring7 8 9;", 3, most.length() + 20);
    }

    private static void toldAlready() {
        Edge.of(Edge.TERMS, "4 a PAIR that is told already (at its A).");
        Edge.fault(TWO_RINGS + "pair 0 1;pair 0 1;", 4, 34);
        Edge.fault(TWO_RINGS + "pair 0 1;pair   1   0;", 4, 36);
        Edge.fault(TWO_RINGS + "pair 0 1;pair 0 1", 4, 34);
        Edge.fault(TWO_RINGS + "pair 0 1;pair 0 1 x", 4, 34);
        Edge.fault(TWO_RINGS + "pair 0 1;pair 0 2;", 2, 36);
        Edge.fault(TWO_RINGS + "pair 0 1;pair 1 1;", 2, 36);
        Edge.fault(TWO_RINGS + "pair 0 1;pair 0;", 1, 35);
        String most = Texts.eight(27, "");
        Edge.fault(most + "pair0 1;", 4, most.length() + 4);
        Edge.fault(most + "pair5 7;", 4, most.length() + 4);
        Edge.fault(most + "pair7 5;", 4, most.length() + 4);
        Edge.good(most + "pair7 6;", 28);
    }

    private static void toldTwice() {
        Edge.of(Edge.TERMS, "(Told twice: the last one counts; of \"repeat\", \"hamming\", too. \"repeat\": 1, 3, 5 or 7.)");
        SlipSecret x = Edge.good("guard 9;guard 0;heats 1 2;heats -3 -2;all;all;repeat 7;repeat 5;", 0);
        Edge.row("told", new long[] {0, -3, -2, 1, 5}, i -> x.told(6 + i));
        Edge.due("hamming behind repeat", 0, Edge.good("repeat 7;hamming;", 0).told(10));
        Edge.due("repeat behind hamming", 7, Edge.good("hamming;repeat 7;", 0).told(10));
        for (int repeat = 0; repeat <= 10; repeat++) {
            if (repeat % 2 == 1 && repeat <= 7) {
                Edge.due("repeat", repeat, Edge.good("repeat " + repeat + ";", 0).told(10));
            } else {
                Edge.fault("repeat " + repeat + ";", 2, 7);
            }
        }
    }

    private static void text() {
        Edge.of(3, "The first n bytes of the TAPE (empty then)");
        SlipSecret x = new SlipSecret();
        Edge.due("none of an empty one", 0, x.text(0));
        Check.feed(x, "guard 1;guard 2;    ");
        Edge.due("eight of twenty", 0, x.text(8));
        Edge.due("only these", 1, x.told(6));
        Edge.due("the rest is gone", 0, x.told(12));
        Edge.due("nothing is left to read", 0, x.text(0));
        Edge.due("and it told nothing", 0, x.told(6));
        Check.feed(x, "guard 1;guard 2;    ");
        Edge.due("none of twenty", 0, x.text(0));
        Edge.due("the tape is empty", 0, x.told(12));
        Edge.due("the guard is as at first", 0, x.told(6));
        Check.feed(x, "guard 1;guard 2;    ");
        Edge.due("all of twenty", 0, x.text(20));
        Edge.due("the last one", 2, x.told(6));
        Check.feed(x, "all;" + " ".repeat(396));
        Edge.due("all of 400", 0, x.text(400));
        Edge.due("the tape is empty", 0, x.told(12));
        Edge.due("from 20 on", 20, x.feed(0, 0, 0, 0, 0));
    }

    private static void textTellsAnew() {
        Edge.of(3, "tell all anew (nothing ENROLLED, HEARD, WEIGHTS 0, nothing can be taken back): how many PAIRS;");
        for (int twice = 0; twice < 2; twice++) {
            SlipSecret x = twice == 0 ? Texts.rich() : Texts.full();
            x.text(0);
            Edge.row("an empty text", new long[] {0, 0, 0, 0, 0, 0, 0, 20, 20, 0, 3, 0, 0, 0, -1, -1, -1, -1}, x::told);
            Edge.due("nothing can be taken back", -1, x.undo());
            Edge.due("no fault", -1, x.fault());
            Edge.same("an empty text", Edge.look(new SlipSecret()), Edge.look(x));
        }
        SlipSecret x = Texts.full();
        x.text(0);
        Edge.due("as many pairs as there can be", 28, Check.tell(x, Texts.eight(28, "")));
        SlipSecret y = Texts.rich();
        Edge.due("a weight there was", 1, y.ring(3, 3));
        y.text(0);
        Edge.due("four pairs", 4, Check.tell(y, Texts.FOUR));
        Edge.same("as told to a new object", Edge.look(Texts.four()), Edge.look(y));
        Edge.due("can't be taken back", -1, y.undo());
        y.set(0, 1);
        Edge.due("what comes behind can", 0, y.undo());
        Edge.due("and no more", -1, y.undo());
        long[] first = {0, 20, 20, 0, 3};
        for (String end : new String[] {"", "x", "guard 1000;"}) {
            SlipSecret z = new SlipSecret();
            Check.tell(z, TWO_RINGS + "pair 0 1;guard 9;heats -40 125;all;hamming;" + end);
            z.text(0);
            Edge.row("settings as at first behind '" + end + "'", first, i -> z.told(6 + i));
            Edge.due("no rings behind '" + end + "'", 0, z.told(0));
            Edge.due("no pairs behind '" + end + "'", 0, z.told(1));
            Edge.due("the same pair again", 1, Check.tell(z, TWO_RINGS + "pair 0 1;"));
        }
        SlipSecret counts = new SlipSecret();
        Check.outcome(() -> counts.hear(0));
        counts.text(0);
        Edge.due("refusals are counted on", 1, counts.status(0));
    }

    private static void textWithFault() {
        Edge.of(3, "or the FAULT less 10 (all stays).");
        String[] texts = {"ring 1 2;", "guard 1000;", "ring0 0 0;".repeat(11), TWO_RINGS + "pair 0 1;pair 0 1;",
            "guard 5;heats 0 1;all;repeat 1;ring 1 1 1;x"};
        int[] due = {-9, -8, -7, -6, -9};
        for (int i = 0; i < texts.length; i++) {
            SlipSecret x = Texts.busy();
            Edge.due("'" + texts[i] + "'", due[i], Check.tell(x, texts[i]));
            Edge.due("the tape is empty then, too", 0, x.told(12));
            Edge.same("all stays", tail(Edge.look(Texts.busy())), tail(Edge.look(x)));
            Edge.due("and can be taken back", 4, x.undo());
            Edge.due("helper", 0, x.pair(0, 9));
        }
    }

    /** A look without the fault's place. */
    private static String tail(String look) {
        return look.substring(look.indexOf(' '));
    }

    private static void textRefused() {
        Edge.of(3, "IllegalArgumentException: n is not 0 to the TAPE's bytes (it stays).");
        for (int n : new int[] {-1, 21, 400, 401, Integer.MIN_VALUE, Integer.MAX_VALUE}) {
            Edge.refused(n + " of twenty", Edge.ARGUMENT, Texts::rich, x -> x.text(n));
        }
        Edge.refused("1 of none", Edge.ARGUMENT, Texts::four, x -> x.text(1));
        SlipSecret x = Texts.rich();
        Check.outcome(() -> x.text(21));
        Edge.due("it stays", 20, x.told(12));
        Edge.due("and can be read", 0, x.text(8));
        Edge.due("as it was", 7, x.told(6));
        SlipSecret full = new SlipSecret();
        Check.feed(full, "all;" + " ".repeat(396));
        Edge.same("401 of 400", Edge.ARGUMENT, Check.outcome(() -> full.text(401)));
        Edge.due("all 400 stay", 400, full.told(12));
        Edge.due("and are read", 0, full.text(400));
        Edge.due("to the end", 1, full.told(9));
    }

    private static void fault() {
        Edge.of(4, "The place of the FAULT of the latest text(); NONE without.");
        SlipSecret x = new SlipSecret();
        Edge.due("no text yet", -1, x.fault());
        Check.tell(x, "x");
        Edge.due("the first place", 0, x.fault());
        Check.tell(x, " ".repeat(397) + "all");
        Edge.due("the length", 400, x.fault());
        Check.tell(x, " ".repeat(399) + "x");
        Edge.due("the last place", 399, x.fault());
        Check.feed(x, "all;");
        Edge.due("feed leaves it", 399, x.fault());
        Check.outcome(() -> x.text(21));
        Edge.due("a text that is refused leaves it", 399, x.fault());
        x.set(0, 1);
        x.undo();
        Edge.due("undo leaves it", 399, x.fault());
        x.text(4);
        Edge.due("the latest has none", -1, x.fault());
        x.text(0);
        Edge.due("nor has an empty one", -1, x.fault());
    }
}
