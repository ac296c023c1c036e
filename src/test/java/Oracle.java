import java.util.ArrayList;
import java.util.HashSet;
import java.util.LinkedHashMap;
import java.util.List;
import java.util.Map;
import java.util.NoSuchElementException;
import java.util.Set;
import java.util.regex.Matcher;
import java.util.regex.Pattern;

/**
 * The document once more, as slowly and plainly as can be: orders of rings are all tried, draws
 * all counted, secrets all tried. Small numbers of rings only, for ways() and leak().
 */
final class Oracle {
    static final class Snapshot {
        List<int[]> rings = new ArrayList<>();
        List<int[]> pairs = new ArrayList<>();
        int[] settings = {0, 20, 20, 0, 3};
        List<Integer> enrolled;
        int enrolledRepeat;
        List<Integer> enrolledBits;
        List<Integer> helper;
        List<Integer> helperAtFirst;
        int secret;
        int secretBits;
        int check;
        Map<Integer, Integer> heard = new LinkedHashMap<>();
        int[] weights = new int[10];

        Snapshot copy() {
            Snapshot s = new Snapshot();
            for (int[] r : rings) s.rings.add(r.clone());
            for (int[] p : pairs) s.pairs.add(p.clone());
            s.settings = settings.clone();
            s.enrolled = enrolled == null ? null : new ArrayList<>(enrolled);
            s.enrolledRepeat = enrolledRepeat;
            s.enrolledBits = enrolledBits == null ? null : new ArrayList<>(enrolledBits);
            s.helper = helper == null ? null : new ArrayList<>(helper);
            s.helperAtFirst = helperAtFirst == null ? null : new ArrayList<>(helperAtFirst);
            s.secret = secret;
            s.secretBits = secretBits;
            s.check = check;
            s.heard = new LinkedHashMap<>(heard);
            s.weights = weights.clone();
            return s;
        }
    }

    private Snapshot s = new Snapshot();
    private List<Snapshot> history = new ArrayList<>();
    private StringBuilder tape = new StringBuilder();
    private int faultAt = -1;
    private final int[] refusals = new int[3];

    // ---- refusals ----

    private void argument(boolean good) {
        if (!good) {
            refusals[1]++;
            throw new IllegalArgumentException();
        }
    }

    private void missing(boolean there) {
        if (!there) {
            refusals[0]++;
            throw new NoSuchElementException();
        }
    }

    private void state(boolean good) {
        if (!good) {
            refusals[2]++;
            throw new IllegalStateException();
        }
    }

    private void heat(int h) {
        argument(h >= -40 && h <= 125);
    }

    private void push() {
        history.add(s.copy());
        if (history.size() > 12) history.remove(0);
    }

    // ---- tape and text ----

    int feed(int... numbers) {
        if (tape.length() + 20 > 400) return -1;
        for (int n : numbers) {
            for (int i = 3; i >= 0; i--) tape.append((char) (n >>> 8 * i & 0xff));
        }
        return tape.length();
    }

    private static final class Fault extends Exception {
        private static final long serialVersionUID = 1L;
        final int kind;
        final int at;

        Fault(int kind, int at) {
            this.kind = kind;
            this.at = at;
        }
    }

    private static final Pattern BLANKS = Pattern.compile(" *");
    private String source;
    private int at;

    private String take(String regex) {
        Matcher blanks = BLANKS.matcher(source).region(at, source.length());
        if (blanks.lookingAt()) at = blanks.end();
        Matcher m = Pattern.compile(regex).matcher(source).region(at, source.length());
        if (!m.lookingAt()) return null;
        at = m.end();
        return m.group();
    }

    private int number(boolean signed, int least, int most) throws Fault {
        String minus = signed ? take("-") : null;
        int start = at - (minus == null ? 0 : 1);
        String digits = take("[0-9]+");
        if (digits == null) throw new Fault(1, at);
        if (minus == null) start = at - digits.length();
        numberAt = start;
        java.math.BigInteger v = new java.math.BigInteger((minus == null ? "" : "-") + digits);
        if (v.compareTo(java.math.BigInteger.valueOf(least)) < 0
                || v.compareTo(java.math.BigInteger.valueOf(most)) > 0) {
            throw new Fault(2, start);
        }
        return v.intValue();
    }

    private int numberAt;

    private void line(Snapshot t) throws Fault {
        String word = take("[a-z]+");
        if (word == null) throw new Fault(1, at);
        int wordAt = at - word.length();
        switch (word) {
            case "ring" -> {
                if (t.rings.size() == 10) throw new Fault(3, wordAt);
                t.rings.add(new int[] {number(false, 0, 9999), number(true, -99, 99), number(false, 0, 50)});
            }
            case "pair" -> {
                if (t.pairs.size() == 28) throw new Fault(3, wordAt);
                int a = number(false, 0, t.rings.size() - 1);
                int aAt = numberAt;
                int b = number(false, 0, t.rings.size() - 1);
                if (a == b) throw new Fault(2, numberAt);
                for (int[] p : t.pairs) {
                    if (Math.min(p[0], p[1]) == Math.min(a, b) && Math.max(p[0], p[1]) == Math.max(a, b)) {
                        throw new Fault(4, aAt);
                    }
                }
                t.pairs.add(new int[] {a, b});
            }
            case "guard" -> t.settings[0] = number(false, 0, 999);
            case "heats" -> {
                t.settings[1] = number(true, -40, 125);
                t.settings[2] = number(true, t.settings[1], 125);
            }
            case "all" -> t.settings[3] = 1;
            case "repeat" -> {
                int r = number(false, 0, 9);
                if (r % 2 == 0 || r > 7) throw new Fault(2, numberAt);
                t.settings[4] = r;
            }
            case "hamming" -> t.settings[4] = 0;
            default -> throw new Fault(1, wordAt);
        }
        if (take(";") == null) throw new Fault(1, at);
    }

    int text(int n) {
        argument(n >= 0 && n <= tape.length());
        source = tape.substring(0, n);
        tape.setLength(0);
        at = 0;
        faultAt = -1;
        Snapshot t = new Snapshot();
        try {
            while (!source.substring(at).isBlank() || source.substring(at).chars().anyMatch(c -> c != ' ')) {
                line(t);
            }
        } catch (Fault f) {
            faultAt = f.at;
            return f.kind - 10;
        }
        s = t;
        history.clear();
        return t.pairs.size();
    }

    int fault() {
        return faultAt;
    }

    // ---- changes ----

    int set(int what, int v) {
        argument(what >= 0 && what <= 4);
        boolean good = switch (what) {
            case 0 -> v >= 0 && v <= 999;
            case 1 -> v >= -40 && v <= s.settings[2];
            case 2 -> v <= 125 && v >= s.settings[1];
            case 3 -> v == 0 || v == 1;
            default -> List.of(0, 1, 3, 5, 7).contains(v);
        };
        argument(good);
        push();
        int old = s.settings[what];
        s.settings[what] = v;
        return old;
    }

    int wear(int ring, int what, int v) {
        missing(ring >= 0 && ring < s.rings.size());
        argument(what >= 0 && what <= 2);
        argument(what == 0 ? v >= 0 && v <= 9999 : what == 1 ? Math.abs((long) v) <= 99 : v >= 0 && v <= 50);
        push();
        int old = s.rings.get(ring)[what];
        s.rings.get(ring)[what] = v;
        return old;
    }

    int enrol(int secret) {
        List<List<Integer>> blocks = blocks();
        state(!blocks.isEmpty());
        int k = dataBits(s.settings[4]);
        int bits = blocks.size() * k;
        argument(secret >= 0 && secret < Math.pow(2, bits));
        push();
        s.enrolled = new ArrayList<>();
        s.enrolledBits = new ArrayList<>();
        s.helper = new ArrayList<>();
        s.enrolledRepeat = s.settings[4];
        s.secret = secret;
        s.secretBits = bits;
        s.check = check(bitsOf(secret, bits));
        for (int b = 0; b < blocks.size(); b++) {
            List<Integer> word = word(s.enrolledRepeat, bitsOf(secret, bits).subList(b * k, b * k + k));
            for (int i = 0; i < word.size(); i++) {
                int p = blocks.get(b).get(i);
                s.enrolled.add(p);
                s.enrolledBits.add(bitAt(p, 20));
                s.helper.add((bitAt(p, 20) + word.get(i)) % 2);
            }
        }
        s.helperAtFirst = new ArrayList<>(s.helper);
        return blocks.size();
    }

    int hear(int pair) {
        missing(pair >= 0 && pair < s.pairs.size());
        push();
        s.heard.put(pair, bitAt(pair, 20));
        return bitAt(pair, 20);
    }

    int train(int epochs) {
        argument(epochs >= 1 && epochs <= 50);
        push();
        int wrong = 0;
        for (int i = 0; i < epochs; i++) wrong = epoch(s.weights, s.heard);
        return wrong;
    }

    int turn(int k) {
        state(s.enrolled != null);
        missing(k >= 0 && k < s.enrolled.size());
        push();
        s.helper.set(k, 1 - s.helper.get(k));
        return s.helper.get(k);
    }

    int undo() {
        if (history.isEmpty()) return -1;
        s = history.remove(history.size() - 1);
        return history.size();
    }

    // ---- rings, pairs, blocks ----

    private int speedAt(int r, int h) {
        return s.rings.get(r)[0] + (int) (s.rings.get(r)[1] * (h - 20) / 10.0);
    }

    private int compare(int p, long x, long y) {
        int a = s.pairs.get(p)[0];
        int b = s.pairs.get(p)[1];
        return x > y || x == y && a < b ? 1 : 0;
    }

    private int bitAt(int p, int h) {
        return compare(p, speedAt(s.pairs.get(p)[0], h), speedAt(s.pairs.get(p)[1], h));
    }

    private int margin(int p) {
        int a = s.pairs.get(p)[0];
        int b = s.pairs.get(p)[1];
        int least = Integer.MAX_VALUE;
        for (int h = -40; h <= 125; h++) {
            if (h == 20 || h >= s.settings[1] && h <= s.settings[2]) {
                int d = speedAt(a, h) - speedAt(b, h);
                least = Math.min(least, bitAt(p, 20) == 1 ? d : -d);
            }
        }
        return least - s.rings.get(a)[2] - s.rings.get(b)[2];
    }

    private boolean steady(int p) {
        return margin(p) > s.settings[0];
    }

    private List<Integer> used() {
        List<Integer> list = new ArrayList<>();
        for (int p = 0; p < s.pairs.size(); p++) {
            if (s.settings[3] == 1 || steady(p)) list.add(p);
        }
        return list;
    }

    private static int length(int repeat) {
        return repeat == 0 ? 7 : repeat;
    }

    private static int dataBits(int repeat) {
        return repeat == 0 ? 4 : 1;
    }

    private List<List<Integer>> blocks() {
        List<List<Integer>> list = new ArrayList<>();
        int n = length(s.settings[4]);
        List<Integer> used = used();
        while (used.size() >= n && (list.size() + 1) * dataBits(s.settings[4]) <= 16) {
            list.add(new ArrayList<>(used.subList(0, n)));
            used = used.subList(n, used.size());
        }
        return list;
    }

    private static List<Integer> bitsOf(int number, int many) {
        List<Integer> list = new ArrayList<>();
        for (int i = 0; i < many; i++) list.add(number / (1 << i) % 2);
        return list;
    }

    private static int check(List<Integer> bits) {
        int v = 0;
        for (int b : bits) {
            v = 2 * v + b;
            if (v > 15) {
                v -= 16;
                v = v - (v % 4) + (3 - v % 4);
            }
        }
        return v;
    }

    private static List<Integer> word(int repeat, List<Integer> d) {
        List<Integer> w = new ArrayList<>();
        if (repeat != 0) {
            for (int i = 0; i < repeat; i++) w.add(d.get(0));
            return w;
        }
        int d1 = d.get(0);
        int d2 = d.get(1);
        int d3 = d.get(2);
        int d4 = d.get(3);
        return List.of((d1 + d2 + d4) % 2, (d1 + d3 + d4) % 2, d1, (d2 + d3 + d4) % 2, d2, d3, d4);
    }

    private static List<Integer> decoded(int repeat, List<Integer> word) {
        if (repeat != 0) {
            int ones = 0;
            for (int b : word) ones += b;
            return List.of(ones > repeat - ones ? 1 : 0);
        }
        int[] w = new int[8];
        for (int i = 1; i <= 7; i++) w[i] = word.get(i - 1);
        int place = (w[1] + w[3] + w[5] + w[7]) % 2 + 2 * ((w[2] + w[3] + w[6] + w[7]) % 2)
                + 4 * ((w[4] + w[5] + w[6] + w[7]) % 2);
        if (place != 0) w[place] = 1 - w[place];
        return List.of(w[3], w[5], w[6], w[7]);
    }

    int told(int what) {
        argument(what >= 0 && what <= 17);
        boolean none = s.enrolled == null;
        int steady = 0;
        for (int p = 0; p < s.pairs.size(); p++) if (steady(p)) steady++;
        return switch (what) {
            case 0 -> s.rings.size();
            case 1 -> s.pairs.size();
            case 2 -> steady;
            case 3 -> used().size();
            case 4 -> blocks().size();
            case 5 -> blocks().size() * dataBits(s.settings[4]);
            case 11 -> history.size();
            case 12 -> tape.length();
            case 13 -> s.heard.size();
            case 14 -> none ? -1 : s.enrolled.size();
            case 15 -> none ? -1 : s.secretBits;
            case 16 -> none ? -1 : s.secret;
            case 17 -> none ? -1 : s.check;
            default -> s.settings[what - 6];
        };
    }

    int ring(int ring, int what) {
        missing(ring >= 0 && ring < s.rings.size());
        argument(what >= 0 && what <= 4);
        if (what < 3) return s.rings.get(ring)[what];
        if (what == 3) return s.weights[ring];
        int many = 0;
        for (int[] p : s.pairs) if (p[0] == ring || p[1] == ring) many++;
        return many;
    }

    int speed(int ring, int h) {
        missing(ring >= 0 && ring < s.rings.size());
        heat(h);
        return speedAt(ring, h);
    }

    int rank(int k, int h) {
        missing(k >= 0 && k < s.rings.size());
        heat(h);
        List<Integer> list = new ArrayList<>();
        for (int r = 0; r < s.rings.size(); r++) list.add(r);
        list.sort((x, y) -> speedAt(y, h) - speedAt(x, h));
        return list.get(k);
    }

    int pair(int p, int what) {
        missing(p >= 0 && p < s.pairs.size());
        argument(what >= 0 && what <= 10);
        int place = s.enrolled == null ? -1 : s.enrolled.indexOf(p);
        switch (what) {
            case 0: return s.pairs.get(p)[0];
            case 1: return s.pairs.get(p)[1];
            case 2: return bitAt(p, 20);
            case 3: return margin(p);
            case 4: return steady(p) ? 1 : 0;
            case 5:
                List<List<Integer>> blocks = blocks();
                for (int b = 0; b < blocks.size(); b++) if (blocks.get(b).contains(p)) return b;
                return -1;
            case 6: return s.heard.getOrDefault(p, -1);
            case 7: return follows(p, reach(s.heard));
            case 8: return guess(s.weights, p);
            case 9: return place < 0 ? -1 : s.helper.get(place);
            default: return place < 0 ? -1 : s.enrolledBits.get(place);
        }
    }

    int bit(int p, int h) {
        missing(p >= 0 && p < s.pairs.size());
        heat(h);
        return bitAt(p, h);
    }

    int flips(int p, int what) {
        missing(p >= 0 && p < s.pairs.size());
        argument(what == 0 || what == 1);
        List<Integer> list = new ArrayList<>();
        for (int h = s.settings[1]; h <= s.settings[2]; h++) if (bitAt(p, h) != bitAt(p, 20)) list.add(h);
        return what == 0 ? list.size() : list.isEmpty() ? 999 : list.get(0);
    }

    int odds(int p, int h, boolean lower) {
        missing(p >= 0 && p < s.pairs.size());
        heat(h);
        int a = s.pairs.get(p)[0];
        int b = s.pairs.get(p)[1];
        int na = s.rings.get(a)[2];
        int nb = s.rings.get(b)[2];
        int all = 0;
        int other = 0;
        for (int x = -na; x <= na; x++) {
            for (int y = -nb; y <= nb; y++) {
                all++;
                if (compare(p, speedAt(a, h) + x, speedAt(b, h) + y) != bitAt(p, 20)) other++;
            }
        }
        int g = java.math.BigInteger.valueOf(all).gcd(java.math.BigInteger.valueOf(other)).intValue();
        return lower ? all / g : other / g;
    }

    int block(int block, int k) {
        List<List<Integer>> blocks = blocks();
        missing(block >= 0 && block < blocks.size());
        return k >= 0 && k < blocks.get(block).size() ? blocks.get(block).get(k) : -1;
    }

    // ---- readings ----

    private int seed;

    private int readSpeed(int r, int h) {
        int n = s.rings.get(r)[2];
        if (n == 0) return speedAt(r, h);
        seed = (int) ((75L * seed + 74) % 65537);
        return speedAt(r, h) + seed % (2 * n + 1) - n;
    }

    /** Secret, raw, corrected, refused, right. */
    private int[] readOnce(int h) {
        int raw = 0;
        List<Integer> sum = new ArrayList<>();
        for (int i = 0; i < s.enrolled.size(); i++) {
            int p = s.enrolled.get(i);
            int x = readSpeed(s.pairs.get(p)[0], h);
            int y = readSpeed(s.pairs.get(p)[1], h);
            int b = compare(p, x, y);
            if (b != s.enrolledBits.get(i)) raw++;
            sum.add((b + s.helper.get(i)) % 2);
        }
        int n = length(s.enrolledRepeat);
        List<Integer> out = new ArrayList<>();
        int corrected = 0;
        for (int i = 0; i < sum.size(); i += n) {
            List<Integer> data = decoded(s.enrolledRepeat, sum.subList(i, i + n));
            List<Integer> word = word(s.enrolledRepeat, data);
            for (int j = 0; j < n; j++) if (!word.get(j).equals(sum.get(i + j))) corrected++;
            out.addAll(data);
        }
        int secret = 0;
        for (int i = 0; i < out.size(); i++) secret += out.get(i) * (1 << i);
        return new int[] {secret, raw, corrected, check(out) != s.check ? 1 : 0, secret == s.secret ? 1 : 0};
    }

    int recover(int h, int seedThen, int what) {
        state(s.enrolled != null);
        heat(h);
        argument(seedThen >= 0 && seedThen <= 65536);
        argument(what >= 0 && what <= 5);
        seed = seedThen;
        int[] all = readOnce(h);
        return what == 5 ? seed : all[what];
    }

    int fails(int h, int seedThen, int many, int what) {
        state(s.enrolled != null);
        heat(h);
        argument(seedThen >= 0 && seedThen <= 65536 && many >= 1 && many <= 60 && what >= 0 && what <= 2);
        seed = seedThen;
        int[] answer = new int[3];
        for (int i = 0; i < many; i++) {
            int[] all = readOnce(h);
            if (all[4] == 0) {
                answer[0]++;
                if (all[3] == 0) answer[1]++;
            }
            answer[2] = Math.max(answer[2], all[1]);
        }
        return answer[what];
    }

    private boolean shaky(int i, int h) {
        int p = s.enrolled.get(i);
        int a = s.pairs.get(p)[0];
        int b = s.pairs.get(p)[1];
        for (int x = -s.rings.get(a)[2]; x <= s.rings.get(a)[2]; x++) {
            for (int y : new int[] {-s.rings.get(b)[2], s.rings.get(b)[2]}) {
                if (compare(p, speedAt(a, h) + x, speedAt(b, h) + y) != s.enrolledBits.get(i)) return true;
            }
        }
        return false;
    }

    private List<Integer> unsafe(int h) {
        List<Integer> list = new ArrayList<>();
        int n = length(s.enrolledRepeat);
        int mends = s.enrolledRepeat == 0 ? 1 : (n - 1) / 2;
        for (int b = 0; b * n < s.enrolled.size(); b++) {
            int spoilt = 0;
            for (int i = b * n; i < b * n + n; i++) {
                if (shaky(i, h) || !s.helper.get(i).equals(s.helperAtFirst.get(i))) spoilt++;
            }
            if (spoilt > mends) list.add(b);
        }
        return list;
    }

    int safe(int h, int what) {
        state(s.enrolled != null);
        heat(h);
        argument(what >= 0 && what <= 2);
        if (what == 0) {
            int many = 0;
            for (int i = 0; i < s.enrolled.size(); i++) if (shaky(i, h)) many++;
            return many;
        }
        List<Integer> list = unsafe(h);
        if (what == 1) return s.enrolled.size() / length(s.enrolledRepeat) - list.size();
        return list.isEmpty() ? -1 : list.get(0);
    }

    int range(int what) {
        state(s.enrolled != null);
        argument(what == 0 || what == 1);
        if (!unsafe(20).isEmpty()) return 999;
        int h = 20;
        if (what == 0) {
            while (h > -40 && unsafe(h - 1).isEmpty()) h--;
        } else {
            while (h < 125 && unsafe(h + 1).isEmpty()) h++;
        }
        return h;
    }

    int guardFor(int blocks) {
        argument(blocks >= 1 && blocks <= 28);
        int[] margins = new int[s.pairs.size()];
        for (int p = 0; p < margins.length; p++) margins[p] = margin(p);
        for (int g = 999; g >= 0; g--) {
            int steady = 0;
            for (int m : margins) if (m > g) steady++;
            int full = Math.min(steady / length(s.settings[4]), 16 / dataBits(s.settings[4]));
            if (full >= blocks) return g;
        }
        return -1;
    }

    // ---- orders ----

    /** The rows of bits that all orders of rings give. */
    private Set<List<Integer>> rows(List<Integer> pairs) {
        Set<List<Integer>> rows = new HashSet<>();
        permute(new ArrayList<>(), pairs, rows);
        return rows;
    }

    private void permute(List<Integer> ahead, List<Integer> pairs, Set<List<Integer>> rows) {
        if (ahead.size() == s.rings.size()) {
            List<Integer> row = new ArrayList<>();
            for (int p : pairs) {
                row.add(ahead.indexOf(s.pairs.get(p)[0]) < ahead.indexOf(s.pairs.get(p)[1]) ? 1 : 0);
            }
            rows.add(row);
            return;
        }
        for (int r = 0; r < s.rings.size(); r++) {
            if (!ahead.contains(r)) {
                ahead.add(r);
                permute(ahead, pairs, rows);
                ahead.remove(ahead.size() - 1);
            }
        }
    }

    private List<Integer> everyPair() {
        List<Integer> list = new ArrayList<>();
        for (int p = 0; p < s.pairs.size(); p++) list.add(p);
        return list;
    }

    long ways(int what) {
        argument(what >= 0 && what <= 2);
        if (what == 2 && s.enrolled == null) return 0;
        return rows(what == 0 ? everyPair() : what == 1 ? used() : s.enrolled).size();
    }

    int leak(int what) {
        state(s.enrolled != null);
        argument(what >= 0 && what <= 4);
        int n = length(s.enrolledRepeat);
        int k = dataBits(s.enrolledRepeat);
        int leak = s.enrolled.size() / n * (n - k) + 4;
        if (what == 1) return leak;
        if (what >= 3) return left(what == 4);
        int sure = 0;
        long ways = rows(s.enrolled).size();
        while (ways >= 2) {
            ways /= 2;
            sure++;
        }
        return what == 0 ? sure : Math.max(0, sure - leak);
    }

    private int left(boolean heardToo) {
        List<Integer> pairs = new ArrayList<>(s.enrolled);
        if (heardToo) pairs.addAll(s.heard.keySet());
        Set<List<Integer>> rows = rows(pairs);
        int k = dataBits(s.enrolledRepeat);
        int many = 0;
        for (int secret = 0; secret < 1 << s.secretBits; secret++) {
            List<Integer> bits = bitsOf(secret, s.secretBits);
            if (check(bits) != s.check) continue;
            List<Integer> row = new ArrayList<>();
            for (int b = 0; b < s.secretBits; b += k) row.addAll(word(s.enrolledRepeat, bits.subList(b, b + k)));
            for (int i = 0; i < row.size(); i++) row.set(i, (row.get(i) + s.helper.get(i)) % 2);
            if (heardToo) row.addAll(s.heard.values());
            if (rows.contains(row)) many++;
        }
        return many;
    }

    // ---- one who listens ----

    private boolean[][] reach(Map<Integer, Integer> heard) {
        boolean[][] r = new boolean[10][10];
        heard.forEach((p, b) -> {
            int[] ab = s.pairs.get(p);
            r[ab[1 - b]][ab[b]] = true;
        });
        for (int k = 0; k < 10; k++) {
            for (int i = 0; i < 10; i++) {
                for (int j = 0; j < 10; j++) r[i][j] |= r[i][k] && r[k][j];
            }
        }
        return r;
    }

    private int follows(int p, boolean[][] r) {
        int a = s.pairs.get(p)[0];
        int b = s.pairs.get(p)[1];
        if (r[a][b] && !r[b][a]) return 1;
        if (r[b][a] && !r[a][b]) return 0;
        return -1;
    }

    private int guess(int[] weights, int p) {
        return compare(p, weights[s.pairs.get(p)[0]], weights[s.pairs.get(p)[1]]);
    }

    private int epoch(int[] weights, Map<Integer, Integer> heard) {
        int wrong = 0;
        for (Map.Entry<Integer, Integer> e : heard.entrySet()) {
            if (guess(weights, e.getKey()) != e.getValue()) {
                wrong++;
                int[] ab = s.pairs.get(e.getKey());
                if (e.getValue() == 1) {
                    weights[ab[0]]++;
                    weights[ab[1]]--;
                } else {
                    weights[ab[0]]--;
                    weights[ab[1]]++;
                }
            }
        }
        return wrong;
    }

    int success(int what) {
        argument(what >= 0 && what <= 3);
        int many = 0;
        boolean[][] r = reach(s.heard);
        for (int p : everyPair()) {
            int f = follows(p, r);
            boolean heard = s.heard.containsKey(p);
            int g = guess(s.weights, p);
            if (what == 0 && f >= 0) many++;
            if (what == 1 && !heard && g == bitAt(p, 20)) many++;
            if (what == 2 && heard && g == s.heard.get(p)) many++;
            if (what == 3 && f >= 0 && f != bitAt(p, 20)) many++;
        }
        return many;
    }

    int curve(int heard, int what) {
        argument(heard >= 0 && heard <= s.pairs.size() && what >= 0 && what <= 2);
        Map<Integer, Integer> map = new LinkedHashMap<>();
        for (int p = 0; p < heard; p++) map.put(p, bitAt(p, 20));
        int[] weights = new int[10];
        int epochs = 0;
        int wrong;
        do {
            wrong = epoch(weights, map);
            epochs++;
        } while (wrong > 0 && epochs < 50);
        if (what == 0) return epochs;
        int many = 0;
        for (int p : everyPair()) {
            if ((p < heard) == (what == 2) && guess(weights, p) == bitAt(p, 20)) many++;
        }
        return many;
    }

    private int next(Map<Integer, Integer> heard) {
        int best = -1;
        int bestMany = -1;
        boolean[][] now = reach(heard);
        for (int p : everyPair()) {
            if (heard.containsKey(p) || follows(p, now) >= 0) continue;
            int fewer = Integer.MAX_VALUE;
            for (int b = 0; b < 2; b++) {
                Map<Integer, Integer> then = new LinkedHashMap<>(heard);
                then.put(p, b);
                boolean[][] r = reach(then);
                int many = 0;
                for (int q : everyPair()) if (follows(q, r) >= 0) many++;
                fewer = Math.min(fewer, many);
            }
            if (fewer > bestMany) {
                bestMany = fewer;
                best = p;
            }
        }
        return best;
    }

    int nextPair() {
        return next(s.heard);
    }

    int needs() {
        Map<Integer, Integer> heard = new LinkedHashMap<>(s.heard);
        int many = 0;
        for (int p = next(heard); p >= 0; p = next(heard)) {
            heard.put(p, bitAt(p, 20));
            many++;
        }
        return many;
    }

    long print() {
        long v = 0;
        for (int p : everyPair()) v = (v * 31 + bitAt(p, 20)) * 31 + margin(p);
        return v;
    }

    int status(int what) {
        return what >= 0 && what <= 2 ? refusals[what] : -1;
    }
}
