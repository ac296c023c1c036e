import java.util.Random;

/** Runs of calls drawn by a fixed seed, on the class and on the oracle: each answer is compared. */
public final class OracleTest {
    private final Random random;
    private final SlipSecret slip = new SlipSecret();
    private final Oracle oracle = new Oracle();
    private final int run;
    private int rings;
    private int pairs;

    private OracleTest(int run) {
        this.run = run;
        random = new Random(run * 7919L + 17);
    }

    public static void main(String[] args) {
        for (int run = 0; run < 1500; run++) {
            OracleTest test = new OracleTest(run);
            if (run % 3 == 0) {
                test.texts();
            } else {
                test.calls();
            }
        }
        Check.end();
    }

    private void both(String label, Check.Call want, Check.Call got) {
        Check.same("run " + run + ": " + label, Check.outcome(want), Check.outcome(got));
    }

    private int upTo(int most) {
        return random.nextInt(most + 1);
    }

    private int from(int least, int most) {
        return least + random.nextInt(most - least + 1);
    }

    // ---- texts ----

    private String blanks(boolean needed) {
        int many = random.nextInt(5) == 0 ? 2 : needed ? 1 : random.nextInt(3) == 0 ? 1 : 0;
        return " ".repeat(many);
    }

    private String number(int value) {
        String digits = (random.nextInt(12) == 0 ? "0" : "") + Math.abs(value);
        return value < 0 ? "-" + digits : digits;
    }

    private String words(String word, int... numbers) {
        StringBuilder text = new StringBuilder(blanks(false)).append(word);
        for (int n : numbers) text.append(blanks(true)).append(number(n));
        return text.append(blanks(false)).append(';').toString();
    }

    private String goodText(int mostRings, int spread) {
        StringBuilder text = new StringBuilder();
        rings = from(2, mostRings);
        for (int i = 0; i < rings; i++) {
            text.append(words("ring", upTo(spread), random.nextBoolean() ? 0 : from(-9, 9), upTo(2) * upTo(3)));
        }
        boolean[][] told = new boolean[rings][rings];
        int wanted = from(1, 28);
        pairs = 0;
        for (int i = 0; i < 60 && pairs < wanted && text.length() < 340; i++) {
            int a = random.nextInt(rings);
            int b = random.nextInt(rings);
            if (a != b && !told[a][b]) {
                told[a][b] = true;
                told[b][a] = true;
                pairs++;
                text.append(words("pair", a, b));
            }
        }
        if (random.nextInt(3) == 0) text.append(words("guard", upTo(6)));
        if (random.nextInt(3) == 0) text.append(words("heats", from(-40, 20), from(20, 125)));
        if (random.nextInt(3) == 0) text.append(words("all"));
        int code = random.nextInt(6);
        if (code < 4) text.append(words("repeat", 2 * code + 1));
        if (code == 4 || random.nextInt(5) == 0) text.append(words("hamming"));
        return text.append(blanks(false)).toString();
    }

    private String spoilt(String text) {
        StringBuilder out = new StringBuilder(text);
        String signs = "  --;;0123456789abghilmnprstu{/:`A\0\u00e9";
        for (int i = upTo(2); i >= 0 && out.length() > 0; i--) {
            int at = random.nextInt(out.length());
            char sign = signs.charAt(random.nextInt(signs.length()));
            switch (random.nextInt(4)) {
                case 0 -> out.setCharAt(at, sign);
                case 1 -> out.insert(at, sign);
                case 2 -> out.deleteCharAt(at);
                default -> out.setLength(at);
            }
        }
        return out.toString();
    }

    private void tell(String whole) {
        String text = whole.length() > 400 ? whole.substring(0, 400) : whole;
        for (int at = 0; at < text.length(); at += 20) {
            int[] n = new int[5];
            for (int i = 0; i < 20; i++) n[i / 4] = n[i / 4] << 8 | (at + i < text.length() ? text.charAt(at + i) : 0);
            both("feed", () -> oracle.feed(n), () -> slip.feed(n[0], n[1], n[2], n[3], n[4]));
        }
        both("text '" + text + "'", () -> oracle.text(text.length()), () -> slip.text(text.length()));
        both("fault of '" + text + "'", oracle::fault, slip::fault);
    }

    private String longText() {
        StringBuilder text = new StringBuilder();
        for (int i = from(8, 11); i > 0; i--) text.append("ring1 2 3;");
        int many = from(26, 30);
        for (int a = 0; a < 9; a++) {
            for (int b = a + 1; b < 9 && many > 0; b++, many--) {
                text.append("pair").append(a).append(' ').append(b).append(';');
            }
        }
        return text.toString();
    }

    private void texts() {
        for (int i = 0; i < 12; i++) {
            String text = random.nextInt(6) == 0 ? longText() : goodText(10, 200);
            tell(random.nextInt(4) == 0 ? text : spoilt(text));
            for (int what = 0; what <= 17; what++) {
                int w = what;
                both("told " + w, () -> oracle.told(w), () -> slip.told(w));
            }
            both("print", oracle::print, slip::print);
        }
    }

    // ---- calls ----

    private int some(int count) {
        return random.nextInt(12) == 0 ? from(-2, count + 1) : count == 0 ? 0 : random.nextInt(count);
    }

    private int someHeat() {
        int[] edges = {-41, -40, 125, 126, 20};
        return random.nextInt(5) == 0 ? edges[random.nextInt(edges.length)] : from(-40, 125);
    }

    private int someSeed() {
        int[] edges = {-1, 0, 65536, 65537};
        return random.nextInt(8) == 0 ? edges[random.nextInt(edges.length)] : upTo(65536);
    }

    private void calls() {
        tell(goodText(6, run % 2 == 0 ? 30 : 300));
        for (int i = 0; i < 120; i++) {
            if (random.nextInt(100) < 35) {
                change();
            } else if (random.nextBoolean()) {
                askSlip();
            } else {
                askSecret();
            }
        }
    }

    private void change() {
        int a = some(rings);
        int what = some(3);
        switch (random.nextInt(9)) {
            case 0, 1 -> {
                int s = some(5);
                int v = s == 0 ? from(-1, 30) : s == 3 ? from(-1, 2) : s == 4 ? from(-1, 8) : someHeat();
                both("set " + s + " " + v, () -> oracle.set(s, v), () -> slip.set(s, v));
            }
            case 2 -> {
                int v = what == 0 ? from(-1, 300) : what == 1 ? from(-101, 101) : random.nextInt(4) == 0 ? from(-1, 51) : upTo(5);
                both("wear", () -> oracle.wear(a, what, v), () -> slip.wear(a, what, v));
            }
            case 3 -> {
                int secret = random.nextInt(4) == 0 ? from(-1, 70000) : upTo((1 << Math.min(16, Math.max(0, slip.told(5)))) - 1);
                both("enrol " + secret, () -> oracle.enrol(secret), () -> slip.enrol(secret));
                oracle.told(5);
            }
            case 4, 5 -> {
                int p = some(pairs);
                both("hear " + p, () -> oracle.hear(p), () -> slip.hear(p));
            }
            case 6 -> {
                int epochs = random.nextInt(5) == 0 ? from(-1, 52) : from(1, 4);
                both("train", () -> oracle.train(epochs), () -> slip.train(epochs));
            }
            case 7 -> {
                int k = some(Math.max(1, slip.told(14)));
                oracle.told(14);
                both("turn " + k, () -> oracle.turn(k), () -> slip.turn(k));
            }
            default -> both("undo", oracle::undo, slip::undo);
        }
    }

    private void askSlip() {
        int r = some(rings);
        int p = some(pairs);
        int h = someHeat();
        int what = some(11);
        switch (random.nextInt(10)) {
            case 0 -> {
                int w = some(18);
                both("told " + w, () -> oracle.told(w), () -> slip.told(w));
            }
            case 1 -> {
                int w = some(5);
                both("ring " + r + " " + w, () -> oracle.ring(r, w), () -> slip.ring(r, w));
            }
            case 2 -> both("speed", () -> oracle.speed(r, h), () -> slip.speed(r, h));
            case 3 -> both("rank", () -> oracle.rank(r, h), () -> slip.rank(r, h));
            case 4, 5 -> both("pair " + p + " " + what, () -> oracle.pair(p, what), () -> slip.pair(p, what));
            case 6 -> both("bit", () -> oracle.bit(p, h), () -> slip.bit(p, h));
            case 7 -> {
                int w = some(2);
                both("flips", () -> oracle.flips(p, w), () -> slip.flips(p, w));
            }
            case 8 -> {
                boolean lower = random.nextBoolean();
                both("odds " + p + " " + h, () -> oracle.odds(p, h, lower), () -> slip.odds(p, h, lower));
            }
            default -> {
                int b = some(4);
                int k = some(7);
                both("block " + b + " " + k, () -> oracle.block(b, k), () -> slip.block(b, k));
            }
        }
    }

    private void askSecret() {
        int h = someHeat();
        int seed = someSeed();
        int w3 = some(3);
        switch (random.nextInt(14)) {
            case 0, 1 -> {
                int w = some(6);
                both("recover " + w, () -> oracle.recover(h, seed, w), () -> slip.recover(h, seed, w));
            }
            case 2 -> {
                int many = random.nextInt(5) == 0 ? from(-1, 62) : from(1, 10);
                both("fails " + w3, () -> oracle.fails(h, seed, many, w3), () -> slip.fails(h, seed, many, w3));
            }
            case 3 -> both("safe " + w3, () -> oracle.safe(h, w3), () -> slip.safe(h, w3));
            case 4 -> {
                int w = some(2);
                both("range " + w, () -> oracle.range(w), () -> slip.range(w));
            }
            case 5 -> {
                int b = random.nextInt(4) == 0 ? from(-1, 30) : from(1, 5);
                both("guardFor " + b, () -> oracle.guardFor(b), () -> slip.guardFor(b));
            }
            case 6 -> both("ways " + w3, () -> oracle.ways(w3), () -> slip.ways(w3));
            case 7, 8 -> {
                int w = some(5);
                both("leak " + w, () -> oracle.leak(w), () -> slip.leak(w));
            }
            case 9 -> {
                int w = some(4);
                both("success " + w, () -> oracle.success(w), () -> slip.success(w));
            }
            case 10 -> {
                int heard = some(pairs + 1);
                both("curve", () -> oracle.curve(heard, w3), () -> slip.curve(heard, w3));
            }
            case 11 -> both("nextPair", oracle::nextPair, slip::nextPair);
            case 12 -> both("needs", oracle::needs, slip::needs);
            default -> {
                int w = from(-1, 3);
                both("status " + w, () -> oracle.status(w), () -> slip.status(w));
                both("print", oracle::print, slip::print);
            }
        }
    }
}
