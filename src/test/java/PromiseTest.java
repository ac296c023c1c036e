/** Each promise of the document in turn; the answers that are due were worked out by hand. */
public final class PromiseTest {
    /** Ring 3 gets faster by 1 a degree; the pairs are a circle of three and one more. */
    private static final String FOUR =
            "ring 100 0 0;ring 90 0 2;ring 80 0 0;ring 95 10 0;pair 0 1;pair 1 2;pair 0 2;pair 3 0;";
    /** Seven pairs, each with bit 1, and margins 10, 20 .. */
    private static final String SEVEN = "ring 70 0 0;ring 60 0 0;ring 50 0 0;ring 40 0 0;ring 30 0 0;"
            + "pair 0 1;pair 1 2;pair 2 3;pair 3 4;pair 0 2;pair 1 3;pair 2 4;";

    private PromiseTest() {
    }

    public static void main(String[] args) {
        newObject();
        feed();
        text();
        textFaults();
        settings();
        wear();
        enrol();
        hear();
        train();
        turn();
        undo();
        told();
        rings();
        pairs();
        flipsAndOdds();
        blocks();
        recover();
        hamming();
        check();
        fails();
        safe();
        range();
        guardFor();
        ways();
        leak();
        success();
        curve();
        next();
        print();
        status();
        Check.end();
    }

    /** Eight rings, all 28 pairs of them: as many as there can be. */
    private static String fullText(String settings) {
        StringBuilder text = new StringBuilder();
        for (int i = 0; i < 8; i++) {
            text.append("ring").append(80 - 10 * i).append(" 0 0;");
        }
        for (int a = 0; a < 8; a++) {
            for (int b = a + 1; b < 8; b++) {
                text.append("pair").append(a).append(' ').append(b).append(';');
            }
        }
        return text.append(settings).toString();
    }

    private static void newObject() {
        SlipSecret x = new SlipSecret();
        int[] due = {0, 0, 0, 0, 0, 0, 0, 20, 20, 0, 3, 0, 0, 0, -1, -1, -1, -1};
        for (int what = 0; what < due.length; what++) {
            Check.due("1: told(" + what + ") of a new object", due[what], x.told(what));
        }
        Check.due("1: fault of a new object", -1, x.fault());
        Check.due("1: undo of a new object", -1, x.undo());
        Check.due("1: NONE", -1, SlipSecret.NONE);
        for (int what = -1; what <= 3; what++) {
            Check.due("1: status(" + what + ") of a new object", what >= 0 && what <= 2 ? 0 : -1, x.status(what));
        }
    }

    private static void feed() {
        SlipSecret x = new SlipSecret();
        for (int i = 1; i <= 20; i++) {
            Check.due("2: feed " + i, 20 * i, x.feed(0x20202020, 0x20202020, 0x20202020, 0x20202020, 0x20202020));
        }
        Check.due("2: more than 400 bytes", -1, x.feed(1, 2, 3, 4, 5));
        Check.due("2: nothing done then", 400, x.told(12));
        Check.due("2: 400 blanks are a text", 0, x.text(400));
        Check.due("2: the tape is empty then", 0, x.told(12));

        SlipSecret order = new SlipSecret();
        order.feed(0x67756172, 0x6437373b, 0, 0, 0);
        Check.due("2: the highest byte first", 0, order.text(8));
        Check.due("2: guard77; was told", 77, order.told(6));
        order.feed(0x80000000, -1, 0, 0, 0);
        Check.due("2: bytes above 127 are none of a text's", -9, order.text(8));
        Check.due("2: and stand at 0", 0, order.fault());
    }

    private static void text() {
        SlipSecret x = Check.told(FOUR + "guard 3;heats -5 30;all;repeat 5;");
        Check.due("3: guard", 3, x.told(6));
        Check.due("3: low", -5, x.told(7));
        Check.due("3: high", 30, x.told(8));
        Check.due("3: all", 1, x.told(9));
        Check.due("3: repeat", 5, x.told(10));
        Check.due("3: pairs", 4, x.told(1));

        x = Check.told(FOUR);
        x.enrol(1);
        x.hear(3);
        x.train(1);
        Check.due("3: a weight", 0, x.ring(0, 3));
        Check.feed(x, "ring 1 2 3;");
        final SlipSecret y = x;
        Check.refused("3: n below 0", "argument", () -> y.text(-1));
        Check.refused("3: n is one too many", "argument", () -> y.text(21));
        Check.due("3: the tape stays", 20, y.told(12));
        Check.due("3: a fault", -9, y.text(20));
        Check.due("3: the tape is empty after a fault", 0, y.told(12));
        Check.due("3: all stays: pairs", 4, y.told(1));
        Check.due("3: all stays: enrolled", 3, y.told(14));
        Check.due("3: all stays: heard", 1, y.told(13));
        Check.due("3: all stays: past", 3, y.told(11));
        Check.due("3: told anew", 1, Check.tell(y, "ring 5 0 0;ring 6 0 0;pair 0 1;"));
        Check.due("3: nothing enrolled", -1, y.told(14));
        Check.due("3: nothing heard", 0, y.told(13));
        Check.due("3: nothing past", 0, y.told(11));
        Check.due("3: nothing to undo", -1, y.undo());
        y.hear(0);
        y.train(2);
        Check.due("3: learnt", -1, y.ring(0, 3));
        Check.due("3: an empty text", 0, y.text(0));
        Check.due("3: no rings", 0, y.told(0));
        Check.tell(y, "ring 5 0 0;");
        Check.due("3: weights are 0 again", 0, y.ring(0, 3));
        Check.tell(y, "guard 9;heats -40 125;all;hamming;");
        y.text(0);
        int[] first = {0, 20, 20, 0, 3};
        for (int i = 0; i < 5; i++) {
            Check.due("3: settings as at first " + i, first[i], y.told(6 + i));
        }
        Check.due("3: the last guard counts", 0, Check.tell(y, "guard 9;guard 8;"));
        Check.due("3: 8", 8, y.told(6));
        Check.tell(y, "repeat 7;hamming;");
        Check.due("3: hamming behind repeat", 0, y.told(10));
        Check.tell(y, "hamming;repeat 1;");
        Check.due("3: repeat behind hamming", 1, y.told(10));
        Check.due("3: only the first bytes", 0, first(y, "guard 55;guard 66;", 9));
        Check.due("3: 55", 55, y.told(6));
        Check.due("3: blanks anywhere, or none", 1,
                Check.tell(y, "  ring1 -2 3 ;ring  0001 0 0;pair0 1  ;  guard5;heats-1-0;   "));
        Check.due("3: -2", -2, y.ring(0, 1));
        Check.due("3: -1", -1, y.told(7));
        Check.due("3: -0", 0, y.told(8));
        Check.due("3: as much as there can be", 28, Check.tell(y, fullText("")));
    }

    private static int first(SlipSecret x, String text, int n) {
        Check.feed(x, text);
        return x.text(n);
    }

    private static SlipSecret told(String text) {
        SlipSecret x = new SlipSecret();
        Check.feed(x, text);
        x.text(text.length());
        return x;
    }

    private static void fault(String text, int kind, int place) {
        SlipSecret x = new SlipSecret();
        Check.due("4: text '" + text + "'", kind - 10, Check.tell(x, text));
        Check.due("4: fault of '" + text + "'", place, x.fault());
    }

    /** A text that ends ahead of signs that would do. */
    private static void cutFault(String whole, int n) {
        SlipSecret x = new SlipSecret();
        Check.due("4: " + n + " bytes of '" + whole + "'", -9, first(x, whole, n));
        Check.due("4: fault of " + n + " bytes of '" + whole + "'", n, x.fault());
    }

    private static void textFaults() {
        fault("ring 1 2;", 1, 8);
        fault("ring 1 2", 1, 8);
        fault("ring 1 2  ", 1, 10);
        fault("ring 1 2 3", 1, 10);
        fault("ring 1 2 3 4;", 1, 11);
        fault("ring 1 2 3x;", 1, 10);
        fault("ring -1 2 3;", 1, 5);
        fault("ring 1 2 -3;", 1, 9);
        fault("ring 1 -;", 1, 8);
        fault("ring 1 -", 1, 8);
        fault("ring 1 --2 3;", 1, 8);
        fault("rin 1 2 3;", 1, 0);
        fault("rings 1 2 3;", 1, 0);
        fault("  rin", 1, 2);
        fault("Ring 1 2 3;", 1, 0);
        fault(";", 1, 0);
        fault("all;;", 1, 4);
        fault("all 5;", 1, 4);
        fault("all", 1, 3);
        fault("\t", 1, 0);
        fault("guard;", 1, 5);
        fault("guard -1;", 1, 6);
        fault("hamming;all ;foo", 1, 13);
        fault("allz;", 1, 0);
        cutFault("all;", 3);
        cutFault("guard 7", 6);
        cutFault("heats 1 -5", 8);
        cutFault("ring 1 -7", 8);
        fault(" ".repeat(397) + "all", 1, 400);
        fault(" ".repeat(395) + "guard", 1, 400);
        fault(" ".repeat(393) + "guard 5", 1, 400);
        fault(" ".repeat(393) + "heats -", 1, 400);
        fault("ring 10000 0 0;", 2, 5);
        fault("ring 99999999999999999999 0 0;", 2, 5);
        fault("ring 0 100 0;", 2, 7);
        fault("ring 0 -100 0;", 2, 7);
        fault("ring 0 0 51;", 2, 9);
        fault("ring 0 0 51", 2, 9);
        fault("guard 1000;", 2, 6);
        fault("heats -41 0;", 2, 6);
        fault("heats 0 126;", 2, 8);
        fault("heats 126 126;", 2, 6);
        fault("heats 30 20;", 2, 9);
        fault("heats -3 -4;", 2, 9);
        fault("repeat 0;", 2, 7);
        fault("repeat 2;", 2, 7);
        fault("repeat 8;", 2, 7);
        fault("repeat 9;", 2, 7);
        fault("pair 0 1;", 2, 5);
        fault("ring 0 0 0;pair 0 1;", 2, 18);
        fault("ring 0 0 0;pair 0 0;", 2, 18);
        fault("ring 0 0 0;pair 1 0;ring 0 0 0;", 2, 16);
        fault("ring0 0 0;ring0 0 0;pair 0 1;pair 0 1;", 4, 34);
        fault("ring0 0 0;ring0 0 0;pair 0 1;pair  1 0 x", 4, 35);
        fault("ring0 0 0;ring0 0 0;pair 0 1;pair 1 2;", 2, 36);
        fault("ring0 0 0;".repeat(10) + "  ring;", 3, 102);
        fault(fullText(" pair 0 1;"), 3, fullText("").length() + 1);
        SlipSecret x = new SlipSecret();
        Check.tell(x, "foo;");
        Check.due("4: fault", 0, x.fault());
        Check.refused("4: text refused", "argument", () -> x.text(1));
        Check.due("4: fault of the text that was read", 0, x.fault());
        x.text(0);
        Check.due("4: no fault any more", -1, x.fault());
        Check.due("4: the edges are no faults", 0, Check.tell(x,
                "ring 0 -99 0;ring 9999 99 50;guard 999;guard 0;heats -40 125;heats 7 7;repeat 7;"));
    }

    private static void settings() {
        SlipSecret x = new SlipSecret();
        Check.due("5: guard was", 0, x.set(0, 999));
        Check.due("5: guard was", 999, x.set(0, 0));
        Check.refused("5: guard 1000", "argument", () -> x.set(0, 1000));
        Check.refused("5: guard -1", "argument", () -> x.set(0, -1));
        Check.refused("5: low above high", "argument", () -> x.set(1, 21));
        Check.refused("5: high below low", "argument", () -> x.set(2, 19));
        Check.due("5: high was", 20, x.set(2, 125));
        Check.due("5: low was", 20, x.set(1, -40));
        Check.refused("5: high 126", "argument", () -> x.set(2, 126));
        Check.refused("5: low -41", "argument", () -> x.set(1, -41));
        Check.due("5: low was", -40, x.set(1, 125));
        Check.due("5: all was", 0, x.set(3, 1));
        Check.refused("5: all 2", "argument", () -> x.set(3, 2));
        Check.refused("5: all -1", "argument", () -> x.set(3, -1));
        int was = 3;
        for (int v = -1; v <= 9; v++) {
            int repeat = v;
            if (v == 0 || v == 1 || v == 3 || v == 5 || v == 7) {
                Check.due("5: repeat was", was, x.set(4, v));
                was = v;
            } else {
                Check.refused("5: repeat " + v, "argument", () -> x.set(4, repeat));
            }
        }
        Check.refused("5: what 5", "argument", () -> x.set(5, 0));
        Check.refused("5: what -1", "argument", () -> x.set(-1, 0));
        int[] due = {0, 125, 125, 1, 7};
        for (int i = 0; i < 5; i++) {
            Check.due("5: told(" + (6 + i) + ")", due[i], x.told(6 + i));
        }
        Check.due("5: refusals take back nothing", 11, x.told(11));
    }

    private static void wear() {
        SlipSecret x = told(FOUR);
        Check.due("6: base was", 100, x.wear(0, 0, 9999));
        Check.due("6: drift was", 10, x.wear(3, 1, -99));
        Check.due("6: noise was", 2, x.wear(1, 2, 50));
        Check.due("6: base", 9999, x.ring(0, 0));
        Check.due("6: drift", -99, x.ring(3, 1));
        Check.due("6: noise", 50, x.ring(1, 2));
        Check.refused("6: no ring 4", "missing", () -> x.wear(4, 9, 0));
        Check.refused("6: no ring -1", "missing", () -> x.wear(-1, 0, 0));
        Check.refused("6: what 3", "argument", () -> x.wear(0, 3, 0));
        Check.refused("6: what -1", "argument", () -> x.wear(0, -1, 0));
        int[][] wrong = {{0, -1}, {0, 10000}, {1, -100}, {1, 100}, {2, -1}, {2, 51}};
        for (int[] w : wrong) {
            Check.refused("6: " + w[0] + " " + w[1], "argument", () -> x.wear(0, w[0], w[1]));
        }
        Check.due("6: edges", 9999, x.wear(0, 0, 0));
        Check.due("6: edges", -99, x.wear(3, 1, 99));
        Check.due("6: edges", 50, x.wear(1, 2, 0));
        Check.due("6: past", 6, x.told(11));
    }

    private static void enrol() {
        SlipSecret none = new SlipSecret();
        Check.refused("7: no blocks, and a wrong secret", "state", () -> none.enrol(-1));
        SlipSecret x = told(FOUR);
        Check.refused("7: secret 2", "argument", () -> x.enrol(2));
        Check.refused("7: secret -1", "argument", () -> x.enrol(-1));
        Check.due("7: refused is not kept", -1, x.told(14));
        Check.due("7: blocks", 1, x.enrol(1));
        Check.due("7: pairs", 3, x.told(14));
        Check.due("7: bits", 1, x.told(15));
        Check.due("7: secret", 1, x.told(16));
        Check.due("7: helper 1 and 1", 0, x.pair(0, 9));
        x.set(4, 1);
        Check.due("7: as they were then", 3, x.told(14));
        x.wear(0, 0, 0);
        Check.due("7: bit as it was then", 1, x.pair(0, 10));
        Check.due("7: bit now", 0, x.pair(0, 2));
        Check.due("7: enrolled anew", 4, x.enrol(11));
        Check.due("7: pairs anew", 4, x.told(14));
        Check.due("7: bit anew", 0, x.pair(0, 10));
        Check.due("7: helper 0 and 1", 1, x.pair(0, 9));
        Check.due("7: helper 1 and 1", 0, x.pair(1, 9));
        Check.due("7: helper 0 and 0", 0, x.pair(2, 9));
        SlipSecret full = told(fullText("repeat 1;"));
        Check.refused("7: 65536", "argument", () -> full.enrol(65536));
        Check.due("7: 16 bits at most", 16, full.enrol(65535));
        Check.due("7: their pairs", 16, full.told(14));
        Check.due("7: the 17th is in none", -1, full.pair(16, 9));
    }

    private static void hear() {
        SlipSecret x = told(FOUR);
        Check.due("8: bit", 0, x.hear(3));
        Check.due("8: bit", 1, x.hear(0));
        Check.due("8: heard", 2, x.told(13));
        x.wear(3, 0, 200);
        Check.due("8: as it was then", 0, x.pair(3, 6));
        Check.due("8: again, as it is now", 1, x.hear(3));
        Check.due("8: not twice", 2, x.told(13));
        Check.due("8: heard bit", 1, x.pair(3, 6));
        Check.refused("8: no pair 4", "missing", () -> x.hear(4));
        Check.refused("8: no pair -1", "missing", () -> x.hear(-1));
        Check.due("8: past", 4, x.told(11));
    }

    private static void train() {
        SlipSecret x = told("ring 1 0 0;ring 2 0 0;ring 3 0 0;pair 0 1;pair 1 2;pair 0 2;");
        Check.due("9: nothing heard, nothing wrong", 0, x.train(50));
        x.hear(2);
        x.hear(0);
        x.hear(1);
        // 2 ahead of 0: wrong by number; then 1 ahead of 0 is right; 2 ahead of 1 is right.
        Check.due("9: one wrong", 1, x.train(1));
        Check.due("9: weights", -1, x.ring(0, 3));
        Check.due("9: weights", 0, x.ring(1, 3));
        Check.due("9: weights", 1, x.ring(2, 3));
        Check.due("9: none in the last", 0, x.train(3));
        SlipSecret order = told("ring 1 0 0;ring 2 0 0;ring 3 0 0;pair 0 1;pair 1 2;pair 0 2;");
        order.hear(0);
        order.hear(1);
        // 1 ahead of 0: wrong: -1 1 0; 2 ahead of 1: wrong: -1 0 1.
        Check.due("9: two wrong", 2, order.train(1));
        Check.due("9: the last epoch's", 0, order.train(2));
        Check.refused("9: 0", "argument", () -> x.train(0));
        Check.refused("9: 51", "argument", () -> x.train(51));
        SlipSecret again = told("ring 1 0 0;ring 2 0 0;ring 3 0 0;pair 0 1;pair 1 2;pair 0 2;");
        again.hear(2);
        again.hear(0);
        again.hear(2);
        // In its old place: 2 ahead of 0: wrong: -1 0 1; 1 ahead of 0 is right then.
        Check.due("9: in its old place", 1, again.train(1));
        Check.due("9: its weights", 0, again.ring(1, 3));
        again.wear(0, 0, 9);
        Check.due("9: bits as they were heard", 0, again.train(1));
        SlipSecret broken = told("ring 3 0 0;ring 2 0 0;ring 1 0 0;pair 0 1;pair 1 2;pair 0 2;");
        broken.hear(0);
        broken.hear(1);
        broken.wear(2, 0, 9);
        broken.hear(2);
        // 0 before 1 before 2 before 0: pair 0 right, 1 right, 2 wrong: -1 0 1; then 0 wrong ..
        Check.due("9: a circle, first epoch", 1, broken.train(1));
        // 0 wrong: 0 -1 1; 1 wrong: 0 0 0; 2 wrong: -1 0 1.
        Check.due("9: a circle, second epoch", 3, broken.train(1));
    }

    private static void turn() {
        SlipSecret x = told(FOUR);
        Check.refused("10: nothing enrolled, and no such pair", "state", () -> x.turn(-1));
        x.enrol(0);
        Check.due("10: turned", 0, x.turn(2));
        Check.due("10: helper", 0, x.pair(2, 9));
        Check.due("10: others", 1, x.pair(1, 9));
        Check.due("10: and back", 1, x.turn(2));
        Check.refused("10: no third", "missing", () -> x.turn(3));
        Check.refused("10: none below 0", "missing", () -> x.turn(-1));
        SlipSecret behind = told(FOUR + "guard 9;repeat 1;");
        behind.enrol(0);
        behind.turn(0);
        Check.due("10: the k-th of the enrolled ones", -1, behind.pair(0, 9));
        Check.due("10: which is pair 2", 0, behind.pair(2, 9));
    }

    private static void undo() {
        SlipSecret x = told(FOUR);
        x.set(0, 5);
        x.wear(0, 0, 77);
        x.hear(0);
        x.train(1);
        x.enrol(1);
        Check.due("11: turned", 1, x.turn(1));
        Check.due("11: six", 6, x.told(11));
        Check.due("11: turn", 5, x.undo());
        Check.due("11: helper is back", 0, x.pair(1, 9));
        Check.due("11: enrol", 4, x.undo());
        Check.due("11: nothing enrolled", -1, x.told(14));
        Check.due("11: a weight", -1, x.ring(0, 3));
        Check.due("11: train", 3, x.undo());
        Check.due("11: no weight", 0, x.ring(0, 3));
        Check.due("11: hear", 2, x.undo());
        Check.due("11: nothing heard", 0, x.told(13));
        Check.due("11: wear", 1, x.undo());
        Check.due("11: the ring", 100, x.ring(0, 0));
        Check.due("11: set", 0, x.undo());
        Check.due("11: the guard", 0, x.told(6));
        Check.due("11: none", -1, x.undo());
        for (int i = 1; i <= 20; i++) {
            x.set(0, i);
            Check.due("11: twelve at most", Math.min(i, 12), x.told(11));
        }
        for (int i = 11; i >= 0; i--) {
            Check.due("11: undo", i, x.undo());
            Check.due("11: guard", 8 + i, x.told(6));
        }
        Check.due("11: no more", -1, x.undo());
        Check.due("11: the guard stays", 8, x.told(6));
        x.set(0, 30);
        x.set(0, 40);
        x.undo();
        x.set(0, 50);
        Check.due("11: undone ones are gone", 1, x.undo());
        Check.due("11: guard", 30, x.told(6));
        x.set(0, 0);
        x.enrol(1);
        x.enrol(0);
        x.undo();
        Check.due("11: the older enrolment", 1, x.told(16));
        x.hear(3);
        x.wear(3, 0, 500);
        x.hear(3);
        x.undo();
        Check.due("11: the older bit", 0, x.pair(3, 6));
        Check.feed(x, "guard 1;");
        x.undo();
        Check.due("11: the tape is not taken back", 20, x.told(12));
        Check.refused("11: refused calls", "argument", () -> x.set(9, 9));
        Check.due("11: are not counted", 4, x.told(11));
    }

    private static void told() {
        SlipSecret x = told(FOUR + "guard 8;");
        Check.due("12: rings", 4, x.told(0));
        Check.due("12: pairs", 4, x.told(1));
        Check.due("12: steady: a margin that is the guard is not", 1, x.told(2));
        Check.due("12: used", 1, x.told(3));
        x.set(3, 1);
        Check.due("12: steady, all used", 1, x.told(2));
        Check.due("12: all used", 4, x.told(3));
        Check.due("12: blocks of three", 1, x.told(4));
        Check.due("12: bits", 1, x.told(5));
        x.set(4, 1);
        Check.due("12: blocks of one", 4, x.told(4));
        x.set(4, 5);
        Check.due("12: blocks of five", 0, x.told(4));
        SlipSecret full = told(fullText(""));
        int[][] due = {{0, 4, 16}, {1, 16, 16}, {3, 9, 9}, {5, 5, 5}, {7, 4, 4}};
        for (int[] d : due) {
            full.set(4, d[0]);
            Check.due("12: blocks with " + d[0], d[1], full.told(4));
            Check.due("12: bits with " + d[0], d[2], full.told(5));
            full.enrol(0);
            Check.due("12: bits enrolled", d[2], full.told(15));
        }
        Check.refused("12: 18", "argument", () -> x.told(18));
        Check.refused("12: -1", "argument", () -> x.told(-1));
        Check.feed(x, "0123456789012345678901");
        Check.due("12: bytes", 40, x.told(12));
    }

    private static void rings() {
        SlipSecret x = told(FOUR + "ring 100 -7 9;");
        Check.due("13: base", 100, x.ring(4, 0));
        Check.due("13: drift", -7, x.ring(4, 1));
        Check.due("13: noise", 9, x.ring(4, 2));
        Check.due("13: in no pair", 0, x.ring(4, 4));
        Check.due("13: as a and as b", 3, x.ring(0, 4));
        Check.refused("13: no ring", "missing", () -> x.ring(5, 9));
        Check.refused("13: no ring", "missing", () -> x.ring(-1, 0));
        Check.refused("13: what", "argument", () -> x.ring(0, 5));
        Check.refused("13: what", "argument", () -> x.ring(0, -1));
        Check.due("14: cut, not below", 100, x.speed(4, 21));
        Check.due("14: -7 times 5 by 10, cut", 97, x.speed(4, 25));
        Check.due("14: 7 by 10, cut", 100, x.speed(4, 19));
        Check.due("14: -7 times -60 by 10", 142, x.speed(4, -40));
        Check.due("14: -7 times 105 by 10", 27, x.speed(4, 125));
        Check.refused("14: no ring", "missing", () -> x.speed(5, 126));
        Check.refused("14: -41", "argument", () -> x.speed(0, -41));
        Check.refused("14: 126", "argument", () -> x.speed(0, 126));
        int[] usual = {0, 4, 3, 1, 2};
        int[] hot = {3, 0, 1, 2, 4};
        for (int k = 0; k < 5; k++) {
            Check.due("15: rank " + k, usual[k], x.rank(k, 20));
            Check.due("15: hot rank " + k, hot[k], x.rank(k, 125));
        }
        Check.refused("15: no k", "missing", () -> x.rank(5, 126));
        Check.refused("15: no k", "missing", () -> x.rank(-1, 20));
        Check.refused("15: heat", "argument", () -> x.rank(0, 126));
    }

    private static void pairs() {
        SlipSecret x = told(FOUR + "guard 9;heats 0 26;repeat 1;");
        int[] first = {0, 1, 0, 3};
        int[] second = {1, 2, 2, 0};
        int[] bits = {1, 1, 1, 0};
        int[] margins = {8, 8, 20, -1};
        int[] blocks = {-1, -1, 0, -1};
        for (int p = 0; p < 4; p++) {
            Check.due("16: a", first[p], x.pair(p, 0));
            Check.due("16: b", second[p], x.pair(p, 1));
            Check.due("16: bit", bits[p], x.pair(p, 2));
            Check.due("16: margin", margins[p], x.pair(p, 3));
            Check.due("16: steady", p == 2 ? 1 : 0, x.pair(p, 4));
            Check.due("16: block", blocks[p], x.pair(p, 5));
            Check.due("16: heard", -1, x.pair(p, 6));
            Check.due("16: follows", -1, x.pair(p, 7));
            Check.due("16: guessed by number", p == 3 ? 0 : 1, x.pair(p, 8));
            Check.due("16: helper", -1, x.pair(p, 9));
            Check.due("16: enrolled", -1, x.pair(p, 10));
        }
        x.set(1, 22);
        Check.due("16: 20 counts besides 22 to 26", -1, x.pair(3, 3));
        x.set(2, 22);
        Check.due("16: 22 alone", 3, x.pair(3, 3));
        x.wear(3, 1, -10);
        Check.due("16: 20 is the least then", 5, x.pair(3, 3));
        Check.refused("16: no pair", "missing", () -> x.pair(4, 11));
        Check.refused("16: no pair", "missing", () -> x.pair(-1, 0));
        Check.refused("16: what", "argument", () -> x.pair(0, 11));
        Check.refused("16: what", "argument", () -> x.pair(0, -1));
        SlipSecret follow = told(FOUR);
        follow.hear(0);
        follow.hear(1);
        Check.due("16: 0 ahead of 1 ahead of 2", 1, follow.pair(2, 7));
        Check.due("16: what was heard follows", 1, follow.pair(0, 7));
        follow.wear(2, 0, 300);
        follow.hear(2);
        for (int p = 0; p < 4; p++) {
            Check.due("16: both told, none follows", -1, follow.pair(p, 7));
        }
        SlipSecret alike = told("ring 5 0 0;ring 5 1 0;pair 0 1;pair 1 0 x");
        Check.due("16: a fault told nothing", 0, alike.told(0));
        alike = told("ring 5 0 0;ring 5 1 0;ring 5 0 0;pair 0 1;pair 2 1;");
        Check.due("16: alike, a less", 1, alike.pair(0, 2));
        Check.due("16: alike, a greater", 0, alike.pair(1, 2));
        Check.due("17: at 29 alike still", 1, alike.bit(0, 29));
        Check.due("17: at 30 not", 0, alike.bit(0, 30));
        Check.due("17: at 10", 1, alike.bit(1, 10));
        Check.due("17: at 11", 0, alike.bit(1, 11));
        SlipSecret y = alike;
        Check.refused("17: no pair", "missing", () -> y.bit(2, 126));
        Check.refused("17: heat", "argument", () -> y.bit(0, -41));
    }

    private static void flipsAndOdds() {
        SlipSecret x = told(FOUR + "heats 24 125;");
        Check.due("18: alike at 25 is no 1 as 3 is not less than 0", 100, x.flips(3, 0));
        Check.due("18: first", 26, x.flips(3, 1));
        Check.due("18: none", 0, x.flips(0, 0));
        Check.due("18: none", 999, x.flips(0, 1));
        x.set(2, 30);
        Check.due("18: to high", 5, x.flips(3, 0));
        x.set(1, 28);
        Check.due("18: from low", 28, x.flips(3, 1));
        Check.refused("18: no pair", "missing", () -> x.flips(4, 2));
        Check.refused("18: what", "argument", () -> x.flips(0, 2));
        Check.refused("18: what", "argument", () -> x.flips(0, -1));

        SlipSecret y = told("ring 10 0 1;ring 10 0 1;ring 9 0 2;ring 12 0 0;pair 0 1;pair 1 0 ;");
        Check.due("19: the same pair twice is a fault", 0, y.told(0));
        SlipSecret z = told("ring 10 0 1;ring 10 0 1;ring 9 10 2;ring 12 0 0;pair 0 1;pair 2 0;pair 3 0;pair 3 2;");
        odds(z, 0, 20, 1, 3);
        // 7..11 against 9..11, bit 0: other are 10 > 9, 11 > 9, 11 > 10: 3 of 15.
        odds(z, 1, 20, 1, 5);
        odds(z, 2, 20, 0, 1);
        // 12 against 8..12 at 21, bit 1: a greater number, so alike ones are 0: 1 of 5.
        odds(z, 3, 21, 1, 5);
        odds(z, 3, 125, 1, 1);
        odds(z, 3, -40, 0, 1);
        Check.refused("19: no pair", "missing", () -> z.odds(4, 126, false));
        Check.refused("19: heat", "argument", () -> z.odds(0, 126, true));
        z.wear(0, 2, 50);
        z.wear(1, 2, 50);
        // 101 times 100 by 2 of 101 times 101.
        odds(z, 0, 20, 50, 101);
    }

    private static void odds(SlipSecret x, int pair, int heat, int upper, int lower) {
        Check.due("19: upper of " + pair + " at " + heat, upper, x.odds(pair, heat, false));
        Check.due("19: lower of " + pair + " at " + heat, lower, x.odds(pair, heat, true));
    }

    private static void blocks() {
        SlipSecret x = told(FOUR + "guard 5;repeat 1;");
        Check.due("20: first", 0, x.block(0, 0));
        Check.due("20: third", 2, x.block(2, 0));
        Check.due("20: one each", -1, x.block(0, 1));
        Check.due("20: below 0", -1, x.block(0, -1));
        Check.due("20: far", -1, x.block(0, Integer.MAX_VALUE));
        Check.refused("20: no block", "missing", () -> x.block(3, 0));
        Check.refused("20: no block", "missing", () -> x.block(-1, 0));
        SlipSecret full = told(fullText("hamming;guard 10;"));
        // Margin 10 has each pair of neighbours: 0 7 13 18 22 25 27; 21 pairs are left.
        Check.due("20: three of seven", 3, full.told(4));
        Check.due("20: pair 0 is left out", 1, full.block(0, 0));
        Check.due("20: and pair 7", 8, full.block(0, 6));
        Check.due("20: last", 26, full.block(2, 6));
        Check.due("20: its block", 2, full.pair(26, 5));
        Check.due("20: in none", -1, full.pair(7, 5));
        full.set(0, 0);
        full.set(4, 1);
        Check.due("20: sixteen", 15, full.block(15, 0));
        Check.due("20: the 17th is in none", -1, full.pair(16, 5));
        Check.refused("20: no 17th", "missing", () -> full.block(16, 0));
    }

    private static void recover() {
        SlipSecret x = told("ring 10 0 1;ring 10 10 2;ring 12 0 0;pair 0 1;pair 1 2;pair 0 2;all;");
        Check.refused("21: nothing enrolled", "state", () -> x.recover(126, -1, 9));
        x.enrol(1);
        Check.refused("21: heat", "argument", () -> x.recover(126, 0, 0));
        Check.refused("21: seed", "argument", () -> x.recover(20, -1, 0));
        Check.refused("21: seed", "argument", () -> x.recover(20, 65537, 0));
        Check.refused("21: what", "argument", () -> x.recover(20, 0, 6));
        Check.refused("21: what", "argument", () -> x.recover(20, 0, -1));
        // Bits 1 0 0, word 111, helper 0 1 1. Draws from 1: 149 11249 57297 37474 and so on:
        // a 10 + 149 % 3 - 1 = 11, b 10 + 11249 % 5 - 2 = 12: 0; 10 + 57297 % 5 - 2 = 10: 0; below 12: 0.
        Check.due("21: raw", 1, x.recover(20, 1, 1));
        Check.due("21: recovered", 1, x.recover(20, 1, 0));
        Check.due("21: corrected", 1, x.recover(20, 1, 2));
        Check.due("21: not refused", 0, x.recover(20, 1, 3));
        Check.due("21: right", 1, x.recover(20, 1, 4));
        int seed = 1;
        for (int i = 0; i < 4; i++) {
            seed = (75 * seed + 74) % 65537;
        }
        Check.due("21: four draws", seed, x.recover(20, 1, 5));
        // Ring 1 is faster by 105 then: bits 0 1 0, two others: 0 and 1 are read, 1 by one.
        Check.due("21: hot: raw", 2, x.recover(125, 1, 1));
        Check.due("21: hot: recovered", 0, x.recover(125, 1, 0));
        Check.due("21: hot: corrected", 1, x.recover(125, 1, 2));
        Check.due("21: hot: refused", 1, x.recover(125, 1, 3));
        Check.due("21: hot: not right", 0, x.recover(125, 1, 4));
        x.wear(1, 1, 0);
        x.wear(0, 2, 0);
        x.wear(1, 2, 0);
        Check.due("21: rings as they are now", 0, x.recover(125, 1, 1));
        Check.due("21: no noise, no draw", 1, x.recover(125, 1, 5));
        Check.due("21: the greatest seed", 65536, x.recover(20, 65536, 5));
        x.set(4, 1);
        Check.due("21: repeat as it was", 1, x.recover(20, 1, 0));
    }

    private static void hamming() {
        SlipSecret x = told(SEVEN + "hamming;");
        for (int secret = 0; secret < 16; secret++) {
            x.enrol(secret);
            int d1 = secret & 1;
            int d2 = secret >> 1 & 1;
            int d3 = secret >> 2 & 1;
            int d4 = secret >> 3;
            int[] word = {d1 ^ d2 ^ d4, d1 ^ d3 ^ d4, d1, d2 ^ d3 ^ d4, d2, d3, d4};
            for (int i = 0; i < 7; i++) {
                Check.due("7: hamming helper", 1 ^ word[i], x.pair(i, 9));
            }
            Check.due("21: nothing to correct", 0, x.recover(20, 0, 2));
            for (int i = 0; i < 7; i++) {
                x.turn(i);
                Check.due("21: one is put right", secret, x.recover(20, 0, 0));
                Check.due("21: one corrected", 1, x.recover(20, 0, 2));
                x.undo();
            }
        }
        x.enrol(0);
        x.turn(0);
        x.turn(1);
        // Places 1 and 2 sum to place 3, d1.
        Check.due("21: two are not", 1, x.recover(20, 0, 0));
        Check.due("21: corrected", 1, x.recover(20, 0, 2));
    }

    private static void check() {
        SlipSecret x = told(fullText("repeat 1;"));
        int[][] due = {{0, 0}, {1, 1}, {2, 9}, {1 << 15, 1}, {1 << 14, 2}, {1 << 12, 8}, {1 << 11, 3}, {1 << 10, 6},
            {1 << 9, 12}, {1 << 8, 11}, {3 << 14, 3}};
        for (int[] d : due) {
            x.enrol(d[0]);
            Check.due("12: check of " + d[0], d[1], x.told(17));
        }
    }

    private static void fails() {
        SlipSecret x = told("ring 10 0 1;ring 10 0 1;pair 0 1;all;repeat 1;");
        Check.refused("22: nothing enrolled", "state", () -> x.fails(126, -1, 0, 9));
        x.enrol(1);
        Check.refused("22: heat", "argument", () -> x.fails(-41, 0, 1, 0));
        Check.refused("22: seed", "argument", () -> x.fails(20, 65537, 1, 0));
        Check.refused("22: many", "argument", () -> x.fails(20, 0, 0, 0));
        Check.refused("22: many", "argument", () -> x.fails(20, 0, 61, 0));
        Check.refused("22: what", "argument", () -> x.fails(20, 0, 1, 3));
        Check.refused("22: what", "argument", () -> x.fails(20, 0, 1, -1));
        int seed = 7;
        int wrong = 0;
        for (int i = 0; i < 60; i++) {
            int a = (75 * seed + 74) % 65537;
            seed = (75 * a + 74) % 65537;
            wrong += a % 3 < seed % 3 ? 1 : 0;
        }
        Check.due("22: wrong of sixty", wrong, x.fails(20, 7, 60, 0));
        Check.due("22: each is refused", 0, x.fails(20, 7, 60, 1));
        Check.due("22: most raw", 1, x.fails(20, 7, 60, 2));
        SlipSecret blind = told(fullText("repeat 1;"));
        blind.enrol(0);
        // x^4 + x + 1 itself: 1 0 0 1 1, the highest first: its check is 0 as that of 0.
        for (int k : new int[] {11, 14, 15}) {
            blind.turn(k);
        }
        Check.due("22: not right", 2, blind.fails(20, 0, 2, 0));
        Check.due("22: and not refused", 2, blind.fails(20, 0, 2, 1));
        Check.due("22: nothing raw", 0, blind.fails(20, 0, 2, 2));
        blind.turn(0);
        Check.due("22: refused", 0, blind.fails(20, 0, 2, 1));
        blind.wear(0, 0, 0);
        Check.due("22: seven raw", 7, blind.fails(20, 0, 1, 2));
    }

    private static void safe() {
        SlipSecret x = told("ring 10 0 1;ring 8 0 0;ring 6 0 1;pair 1 0;pair 1 2;pair 0 2;all;");
        Check.refused("23: nothing enrolled", "state", () -> x.safe(126, 9));
        x.enrol(1);
        Check.due("23: nothing shaky", 0, x.safe(20, 0));
        x.wear(0, 2, 2);
        // 8 of ring 0 at least, alike then: 1 is not less than 0, so the bit stays 0.
        Check.due("23: alike, the bit stays", 0, x.safe(20, 0));
        x.wear(0, 2, 3);
        Check.due("23: one shaky; 7 against 7 stays", 1, x.safe(20, 0));
        Check.due("23: safe", 1, x.safe(20, 1));
        Check.due("23: none unsafe", -1, x.safe(20, 2));
        x.turn(0);
        Check.due("23: shaky and turned counts once", 1, x.safe(20, 1));
        x.turn(2);
        Check.due("23: two are too many", 0, x.safe(20, 1));
        Check.due("23: the first", 0, x.safe(20, 2));
        Check.due("23: turned is not shaky", 1, x.safe(20, 0));
        x.turn(2);
        Check.due("23: turned twice is as at first", 1, x.safe(20, 1));
        x.wear(0, 2, 4);
        Check.due("23: 6 against 7", 2, x.safe(20, 0));
        x.set(4, 1);
        Check.due("23: as enrolled", 0, x.safe(20, 1));
        Check.refused("23: heat", "argument", () -> x.safe(126, 0));
        Check.refused("23: what", "argument", () -> x.safe(20, 3));
        Check.refused("23: what", "argument", () -> x.safe(20, -1));
        SlipSecret seven = told(fullText("hamming;"));
        seven.enrol(0);
        seven.turn(7);
        Check.due("23: hamming puts one right", 4, seven.safe(20, 1));
        seven.turn(13);
        Check.due("23: not two", 3, seven.safe(20, 1));
        Check.due("23: the second block", 1, seven.safe(20, 2));
        seven.set(4, 5);
        seven.enrol(0);
        seven.turn(5);
        seven.turn(6);
        Check.due("23: five put two right", 5, seven.safe(20, 1));
        seven.turn(9);
        Check.due("23: not three", 4, seven.safe(20, 1));
    }

    private static void range() {
        SlipSecret x = told(FOUR + "repeat 1;");
        Check.refused("24: nothing enrolled", "state", () -> x.range(9));
        x.enrol(0);
        Check.due("24: cold is fine", -40, x.range(0));
        Check.due("24: alike at 25 is fine", 25, x.range(1));
        Check.refused("24: what", "argument", () -> x.range(2));
        Check.refused("24: what", "argument", () -> x.range(-1));
        x.wear(3, 1, -10);
        Check.due("24: the other way", 15, x.range(0));
        Check.due("24: hot is fine", 125, x.range(1));
        x.wear(3, 0, 101);
        Check.due("24: not at 20", 999, x.range(0));
        Check.due("24: not at 20", 999, x.range(1));
        x.wear(3, 0, 100);
        Check.due("24: alike at 20, at 19 not", 20, x.range(0));
        Check.due("24: hot is fine", 125, x.range(1));
        x.wear(3, 1, -1);
        Check.due("24: 11 is alike by the cut", 11, x.range(0));
    }

    private static void guardFor() {
        SlipSecret x = told(SEVEN + "repeat 1;");
        int[] due = {19, 19, 19, 9, 9, 9, 9, -1};
        for (int i = 0; i < due.length; i++) {
            Check.due("25: guardFor(" + (i + 1) + ")", due[i], x.guardFor(i + 1));
        }
        x.set(3, 1);
        x.set(0, 500);
        Check.due("25: all and guard tell nothing", 19, x.guardFor(3));
        x.set(4, 3);
        Check.due("25: three pairs", 19, x.guardFor(1));
        Check.due("25: six pairs", 9, x.guardFor(2));
        x.wear(4, 2, 50);
        Check.due("25: margins -40 and -30", -1, x.guardFor(2));
        Check.refused("25: 0", "argument", () -> x.guardFor(0));
        Check.refused("25: 29", "argument", () -> x.guardFor(29));
        Check.due("25: 28", -1, x.guardFor(28));
        SlipSecret far = told("ring 9000 0 0;ring 1 0 0;ring 1 0 0;pair 0 1;pair 1 2;repeat 1;");
        Check.due("25: 999 at most", 999, far.guardFor(1));
        Check.due("25: a margin of 0 is never steady", -1, far.guardFor(2));
        far.wear(2, 0, 0);
        Check.due("25: a margin of 1 is with 0", 0, far.guardFor(2));
        SlipSecret full = told(fullText("repeat 1;"));
        Check.due("25: sixteen bits", 29, full.guardFor(15));
        Check.due("25: sixteen bits", 19, full.guardFor(16));
        Check.due("25: not more", -1, full.guardFor(17));
        full.set(4, 0);
        Check.due("25: four hammings", 9, full.guardFor(4));
        Check.due("25: not five", -1, full.guardFor(5));
    }

    private static void ways() {
        SlipSecret x = new SlipSecret();
        Check.due("26: nothing", 1, x.ways(0));
        Check.due("26: nothing enrolled", 0, x.ways(2));
        Check.refused("26: 3", "argument", () -> x.ways(3));
        Check.refused("26: -1", "argument", () -> x.ways(-1));
        SlipSecret full = told(fullText("guard 69;repeat 1;"));
        Check.due("26: all orders of eight", 40320, full.ways(0));
        Check.due("26: 0 and 7 used", 2, full.ways(1));
        full.set(0, 70);
        Check.due("26: none used", 1, full.ways(1));
        full.set(0, 59);
        Check.due("26: 0 and 6, 1 and 7 besides", 8, full.ways(1));
        full.set(0, 49);
        Check.due("26: a circle of 0 7 1 6, 5 at 0, 2 at 7", 14 * 4, full.ways(1));
        full.set(0, 0);
        full.set(4, 7);
        full.enrol(0);
        Check.due("26: enrolled", 40320, full.ways(2));
        SlipSecret tree = told("ring0 0 0;".repeat(10) + "pair0 1;pair1 2;pair2 3;pair3 4;pair4 5;pair5 6;"
                + "pair6 7;pair7 8;pair8 9;");
        Check.due("26: ten in a row", 512, tree.ways(0));
        SlipSecret circle = told("ring0 0 0;".repeat(10) + "pair0 1;pair1 2;pair2 3;pair3 4;pair4 5;pair5 6;"
                + "pair6 7;pair7 8;pair8 9;pair9 0;");
        Check.due("26: ten in a circle", 1022, circle.ways(0));
    }

    private static void leak() {
        SlipSecret x = told(fullText("repeat 1;"));
        Check.refused("27: nothing enrolled", "state", () -> x.leak(9));
        x.enrol(0);
        Check.refused("27: 5", "argument", () -> x.leak(5));
        Check.refused("27: -1", "argument", () -> x.leak(-1));
        Check.due("27: only the check leaks", 4, x.leak(1));
        // Pairs 0 to 15 join 0 to all seven, 1 to six, 2 to 3, 4 and 5.
        long found = x.ways(2);
        Check.due("27: sure", 63 - Long.numberOfLeadingZeros(found), x.leak(0));
        Check.due("27: told", x.leak(0) - 4, x.leak(2));
        x.set(4, 3);
        x.enrol(0);
        Check.due("27: nine times two, and four", 22, x.leak(1));
        Check.due("27: told is 0 at least", 0, x.leak(2));
        x.set(4, 0);
        x.enrol(0);
        Check.due("27: four times three, and four", 16, x.leak(1));
        Check.due("27: sure of 8 factorial", 15, x.leak(0));
        Check.due("27: and 0", 0, x.leak(2));

        SlipSecret three = told("ring 9 0 0;ring 8 0 0;ring 7 0 0;ring 6 0 0;ring 5 0 0;ring 4 0 0;"
                + "pair 0 1;pair 1 2;pair 0 2;pair 3 4;pair 4 5;pair 3 5;repeat 1;");
        three.enrol(0);
        Check.due("27: 36 rows", 36, three.ways(2));
        Check.due("27: sure 5", 5, three.leak(0));
        Check.due("27: told 1", 1, three.leak(2));
        // Secrets of six bits with check 0: 0 and three by 2, 4 + 2 terms; helper is all ones.
        int left = 0;
        for (int secret = 0; secret < 64; secret++) {
            int bits = secret ^ 63;
            boolean circle = (bits & 7) == 3 || (bits & 7) == 4 || bits >> 3 == 3 || bits >> 3 == 4;
            left += !circle && checkOf(secret, 6) == 0 ? 1 : 0;
        }
        Check.due("27: left", left, three.leak(3));
        Check.due("27: who heard nothing", left, three.leak(4));
        three.hear(0);
        three.hear(1);
        int knows = 0;
        for (int secret = 0; secret < 64; secret++) {
            int bits = secret ^ 63;
            knows += (bits & 7) == 7 && bits >> 3 != 3 && bits >> 3 != 4 && checkOf(secret, 6) == 0 ? 1 : 0;
        }
        Check.due("27: left to who listens", knows, three.leak(4));
        Check.due("27: left as before", left, three.leak(3));
        three.wear(2, 0, 50);
        three.hear(2);
        Check.due("27: what was heard cannot be", 0, three.leak(4));
        sixteenLeft();
    }

    /** Sixteen blocks, each secret tried on its own. */
    private static void sixteenLeft() {
        SlipSecret x = told(fullText("repeat 1;"));
        x.enrol(40000);
        x.turn(3);
        x.hear(27);
        int helper = 40000 ^ 65535 ^ 8;
        int check = checkOf(40000, 16);
        int left = 0;
        int knows = 0;
        for (int secret = 0; secret < 65536; secret++) {
            if (checkOf(secret, 16) == check) {
                left += hasOrder(secret ^ helper, 16) ? 1 : 0;
                // Pair 27 is 6 ahead of 7.
                knows += hasOrder(secret ^ helper | 1 << 27, 16) ? 1 : 0;
            }
        }
        Check.due("27: sixteen bits, left", left, x.leak(3));
        Check.due("27: sixteen bits, left to who listens", knows, x.leak(4));
    }

    /** Whether bits of the first pairs of eight rings, and of pair 27 if it is set, fit an order. */
    private static boolean hasOrder(int bits, int many) {
        int gone = 0;
        for (int round = 0; round < 8; round++) {
            int beaten = 0;
            for (int a = 0, p = 0; a < 8; a++) {
                for (int b = a + 1; b < 8; b++, p++) {
                    boolean isThere = p < many || p == 27 && bits >> 27 == 1;
                    int front = (bits >> p & 1) == 1 ? a : b;
                    beaten |= isThere && (gone >> front & 1) == 0 ? 1 << (a + b - front) : 0;
                }
            }
            gone |= ~beaten & 255;
        }
        return gone == 255;
    }

    private static int checkOf(int secret, int bits) {
        int v = 0;
        for (int i = 0; i < bits; i++) {
            v = 2 * v + (secret >> i & 1);
            v = v > 15 ? (v - 16) ^ 3 : v;
        }
        return v;
    }

    private static void success() {
        SlipSecret x = told(FOUR);
        Check.due("28: nothing follows", 0, x.success(0));
        Check.due("28: guessed by number", 4, x.success(1));
        Check.due("28: none heard", 0, x.success(2));
        x.hear(0);
        x.hear(1);
        Check.due("28: follows", 3, x.success(0));
        Check.due("28: not heard and right", 2, x.success(1));
        Check.due("28: heard and right", 2, x.success(2));
        Check.due("28: none otherwise", 0, x.success(3));
        x.wear(2, 0, 95);
        Check.due("28: pair 1 is otherwise now", 1, x.success(3));
        Check.due("28: as heard", 2, x.success(2));
        x.wear(2, 0, 300);
        Check.due("28: pairs 1 and 2 now", 2, x.success(3));
        Check.due("28: by bits as they are", 1, x.success(1));
        x.hear(1);
        Check.due("28: 2 ahead of 1", 1, x.success(2));
        Check.refused("28: 4", "argument", () -> x.success(4));
        Check.refused("28: -1", "argument", () -> x.success(-1));
    }

    private static void curve() {
        SlipSecret x = told("ring 1 0 0;ring 2 0 0;ring 3 0 0;ring 4 0 0;pair 0 1;pair 1 2;pair 0 2;pair 2 3;");
        Check.due("29: nothing heard", 1, x.curve(0, 0));
        Check.due("29: all guessed wrong by number", 0, x.curve(0, 1));
        // -1 1 0 0: pair 1 (1 2) is guessed 1, wrong; pair 2 right; pair 3 by number, wrong.
        Check.due("29: one heard, two epochs", 2, x.curve(1, 0));
        Check.due("29: one behind is right", 1, x.curve(1, 1));
        Check.due("29: and the one", 1, x.curve(1, 2));
        x.hear(3);
        x.train(5);
        Check.due("29: weights as they are tell nothing", 2, x.curve(1, 0));
        Check.due("29: nothing stays", 1, x.told(13));
        Check.due("29: nothing stays", -1, x.ring(2, 3));
        Check.due("29: all heard", 4, x.curve(4, 2));
        Check.due("29: none behind", 0, x.curve(4, 1));
        SlipSecret slow = told("ring2 0 0;ring3 0 0;ring4 0 0;ring5 0 0;ring0 0 0;ring6 0 0;ring7 0 0;ring1 0 0;"
                + "ring8 0 0;ring9 0 0;pair3 8;pair2 1;pair9 8;pair0 1;pair4 1;pair2 4;pair7 9;pair6 3;pair7 6;"
                + "pair6 8;pair7 4;pair5 6;pair5 3;pair0 7;pair9 1;pair5 8;pair4 6;pair3 2;");
        Check.due("29: one that learns slowly", 16, slow.curve(18, 0));
        Check.due("29: but all of it", 18, slow.curve(18, 2));
        Check.refused("29: 5", "argument", () -> x.curve(5, 0));
        Check.refused("29: -1", "argument", () -> x.curve(-1, 0));
        Check.refused("29: what", "argument", () -> x.curve(0, 3));
        Check.refused("29: what", "argument", () -> x.curve(0, -1));
    }

    private static void next() {
        Check.due("30: none", -1, new SlipSecret().nextPair());
        SlipSecret x = told("ring 4 0 0;ring 3 0 0;ring 2 0 0;ring 1 0 0;pair 2 3;pair 0 1;pair 1 2;pair 0 2;pair 0 3;");
        Check.due("30: the first of alike ones", 0, x.nextPair());
        Check.due("31: as many as needed", 4, x.needs());
        x.hear(0);
        // 2 ahead of 3: with pair 3 (0 2) 1 tells 0 ahead of 3 too, but 0 tells nothing more.
        Check.due("30: the fewer of both", 1, x.nextPair());
        x.hear(1);
        // 0 ahead of 1, 2 ahead of 3: pair 2: 1: all five follow; 0: no more than three.
        // pair 3: 1: four with pair 4; 0: 2 ahead of 0 and 1: pairs 0 1 3 2: four.
        Check.due("30: the better one", 3, x.nextPair());
        Check.due("31: two more", 2, x.needs());
        Check.due("31: nothing stays", 2, x.told(13));
        x.hear(2);
        Check.due("30: all follow", -1, x.nextPair());
        Check.due("31: none", 0, x.needs());
        SlipSecret full = told(fullText(""));
        int next = full.nextPair();
        int many = 0;
        while (next >= 0 && many < 99) {
            Check.due("31: one less each time", full.needs() - 1, needsAfter(full, next));
            next = full.nextPair();
            many++;
        }
        Check.due("31: none is left", 0, full.needs());
        Check.due("31: all follow", 28, full.success(0));
        SlipSecret circle = told("ring 3 0 0;ring 2 0 0;ring 1 0 0;pair 0 1;pair 1 2;pair 0 2;");
        circle.hear(0);
        circle.hear(1);
        circle.wear(2, 0, 9);
        circle.hear(2);
        Check.due("30: heard ones are not next, though none follows", -1, circle.nextPair());
    }

    private static int needsAfter(SlipSecret x, int pair) {
        x.hear(pair);
        return x.needs();
    }

    private static void print() {
        Check.due("32: nothing", 0, new SlipSecret().print());
        SlipSecret x = told(FOUR);
        long due = 0;
        int[][] rows = {{1, 8}, {1, 8}, {1, 20}, {0, 5}};
        for (int[] row : rows) {
            due = 31 * (31 * due + row[0]) + row[1];
        }
        Check.due("32: print", due, x.print());
        x.wear(1, 2, 50);
        rows[0][1] = -40;
        rows[1][1] = -40;
        due = 0;
        for (int[] row : rows) {
            due = 31 * (31 * due + row[0]) + row[1];
        }
        Check.due("32: margins below 0", due, x.print());
        long wrapped = 0;
        SlipSecret full = told(fullText(""));
        for (int a = 0; a < 8; a++) {
            for (int b = a + 1; b < 8; b++) {
                wrapped = 31 * (31 * wrapped + 1) + 10 * (b - a);
            }
        }
        Check.due("32: with wrap-around", wrapped, full.print());
    }

    private static void status() {
        SlipSecret x = told(FOUR);
        Check.outcome(() -> x.hear(9));
        Check.outcome(() -> x.pair(9, 99));
        Check.outcome(() -> x.turn(0));
        Check.outcome(() -> x.set(9, 9));
        Check.outcome(() -> x.text(999));
        Check.outcome(() -> x.enrol(2));
        Check.due("33: missing", 2, x.status(0));
        Check.due("33: arguments", 3, x.status(1));
        Check.due("33: states", 1, x.status(2));
        Check.due("33: others", -1, x.status(3));
        Check.due("33: others", -1, x.status(-1));
        x.set(0, 1);
        Check.outcome(() -> x.set(0, -1));
        x.undo();
        Check.due("33: not taken back", 4, x.status(1));
        x.text(0);
        Check.due("33: nor told anew", 4, x.status(1));
    }
}
