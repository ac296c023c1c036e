import java.util.NoSuchElementException;

/**
 * Secrets from slips of silicon: rings that are compared in pairs, a secret hidden by helper words,
 * and one who listens. Every row that a call needs is made in a constructor and used again, since
 * all calls of a run share one room for objects.
 */
public final class SlipSecret {
    public static final int NONE = -1;

    private static final int MAX_RINGS = 10;
    private static final int MAX_PAIRS = 28;
    private static final int MAX_BYTES = 400;
    private static final int FEED_BYTES = 20;
    private static final int MAX_PAST = 12;
    private static final int MAX_SECRET_BITS = 16;
    private static final int MAX_EPOCHS = 50;
    private static final int MAX_READINGS = 60;
    private static final int MAX_SEED = 65536;

    private static final int COLDEST = -40;
    private static final int HOTTEST = 125;
    private static final int USUAL_HEAT = 20;
    private static final int NO_HEAT = 999;

    private static final int GUARD = 0;
    private static final int LOW = 1;
    private static final int HIGH = 2;
    private static final int ALL = 3;
    private static final int REPEAT = 4;
    private static final int SETTINGS = 5;
    private static final int MAX_GUARD = 999;
    private static final int HAMMING = 0;

    private static final int BASE = 0;
    private static final int DRIFT = 1;
    private static final int NOISE = 2;
    private static final int MAX_BASE = 9999;
    private static final int MAX_DRIFT = 99;
    private static final int MAX_NOISE = 50;

    private State now;
    private final State[] past;
    private int pastCount;
    private int pastTop;
    private final TextReader reader;
    private int refusedMissing;
    private int refusedArgument;
    private int refusedState;
    private final Reading reading;
    private final Order order;
    private final Order trial;
    private final Listener imagined;
    private final WaysCounter waysCounter;
    private final LeftCounter leftCounter;
    private final int[] margins;

    public SlipSecret() {
        now = new State();
        past = new State[MAX_PAST];
        for (int i = 0; i < MAX_PAST; i++) {
            past[i] = new State();
        }
        reader = new TextReader();
        reading = new Reading();
        order = new Order();
        trial = new Order();
        imagined = new Listener();
        waysCounter = new WaysCounter();
        leftCounter = new LeftCounter();
        margins = new int[MAX_PAIRS];
    }

    // ---- what tells and changes ----

    public int feed(int a, int b, int c, int d, int e) {
        if (reader.tapeLength + FEED_BYTES > MAX_BYTES) {
            return NONE;
        }
        reader.putOnTape(a);
        reader.putOnTape(b);
        reader.putOnTape(c);
        reader.putOnTape(d);
        reader.putOnTape(e);
        return reader.tapeLength;
    }

    public int text(int n) throws IllegalArgumentException {
        needBetween(n, 0, reader.tapeLength);
        int kind = reader.read(n);
        if (kind != 0) {
            return kind - 10;
        }
        now.slip.copyFrom(reader.draft);
        now.kept.clear();
        now.listener.clear();
        pastCount = 0;
        return now.slip.pairs;
    }

    public int fault() {
        return reader.faultPlace;
    }

    public int set(int what, int v) throws IllegalArgumentException {
        needBetween(what, GUARD, REPEAT);
        needSetting(what, v);
        remember();
        int old = now.slip.settings[what];
        now.slip.settings[what] = v;
        return old;
    }

    public int wear(int ring, int what, int v)
            throws NoSuchElementException, IllegalArgumentException {
        needCounted(ring, now.slip.rings);
        needBetween(what, BASE, NOISE);
        needTrait(what, v);
        remember();
        int[] row = now.slip.traitRow(what);
        int old = row[ring];
        row[ring] = v;
        return old;
    }

    public int enrol(int secret) throws IllegalArgumentException, IllegalStateException {
        int used = now.slip.usedPairs();
        int blocks = now.slip.blockCount(used);
        if (blocks == 0) {
            refuseState();
        }
        int bits = blocks * Code.bitsOf(now.slip.settings[REPEAT]);
        needBetween(secret, 0, (1 << bits) - 1);
        remember();
        now.kept.keep(now.slip, used, blocks, secret);
        return blocks;
    }

    public int hear(int pair) throws NoSuchElementException {
        needCounted(pair, now.slip.pairs);
        remember();
        int heardBit = now.slip.bitOf(pair);
        now.listener.keep(pair, heardBit);
        return heardBit;
    }

    public int train(int epochs) throws IllegalArgumentException {
        needBetween(epochs, 1, MAX_EPOCHS);
        remember();
        int wrong = 0;
        for (int i = 0; i < epochs; i++) {
            wrong = now.listener.learn(now.slip);
        }
        return wrong;
    }

    public int turn(int k) throws IllegalStateException, NoSuchElementException {
        needEnrolled();
        needCounted(k, now.kept.count);
        remember();
        now.kept.helper ^= 1 << k;
        return bitIn(now.kept.helper, k);
    }

    public int undo() {
        if (pastCount == 0) {
            return NONE;
        }
        pastCount--;
        pastTop = (pastTop + MAX_PAST - 1) % MAX_PAST;
        State back = past[pastTop];
        past[pastTop] = now;
        now = back;
        return pastCount;
    }

    // ---- what is there ----

    public int told(int what) throws IllegalArgumentException {
        needBetween(what, 0, 17);
        Slip slip = now.slip;
        switch (what) {
            case 0:
                return slip.rings;
            case 1:
                return slip.pairs;
            case 2:
                return Integer.bitCount(slip.steadyPairs());
            case 3:
                return Integer.bitCount(slip.usedPairs());
            case 4:
                return slip.blockCount(slip.usedPairs());
            case 5:
                return slip.blockCount(slip.usedPairs()) * Code.bitsOf(slip.settings[REPEAT]);
            case 11:
                return pastCount;
            case 12:
                return reader.tapeLength;
            case 13:
                return now.listener.count;
            case 14:
            case 15:
            case 16:
            case 17:
                return toldOfEnrolled(what);
            default:
                return slip.settings[what - 6];
        }
    }

    public int ring(int ring, int what) throws NoSuchElementException, IllegalArgumentException {
        needCounted(ring, now.slip.rings);
        needBetween(what, 0, 4);
        if (what <= NOISE) {
            return now.slip.traitRow(what)[ring];
        }
        return what == 3 ? now.listener.weights[ring] : now.slip.pairsWith(ring);
    }

    public int speed(int ring, int heat) throws NoSuchElementException, IllegalArgumentException {
        needCounted(ring, now.slip.rings);
        needHeat(heat);
        return now.slip.speedOf(ring, heat);
    }

    public int rank(int k, int heat) throws NoSuchElementException, IllegalArgumentException {
        needCounted(k, now.slip.rings);
        needHeat(heat);
        for (int i = 0; i < now.slip.rings; i++) {
            if (now.slip.ringsAheadOf(i, heat) == k) {
                return i;
            }
        }
        return NONE;
    }

    public int pair(int pair, int what) throws NoSuchElementException, IllegalArgumentException {
        needCounted(pair, now.slip.pairs);
        needBetween(what, 0, 10);
        Slip slip = now.slip;
        int place = now.kept.placeOf(pair);
        switch (what) {
            case 0:
                return slip.first[pair];
            case 1:
                return slip.second[pair];
            case 2:
                return slip.bitOf(pair);
            case 3:
                return slip.marginOf(pair);
            case 4:
                return slip.marginOf(pair) > slip.settings[GUARD] ? 1 : 0;
            case 5:
                return slip.blockOf(pair);
            case 6:
                return now.listener.heardBitOf(pair);
            case 7:
                now.listener.putInto(order, slip);
                return order.bitTold(slip.first[pair], slip.second[pair]);
            case 8:
                return now.listener.guessOf(slip, pair);
            case 9:
                return place == NONE ? NONE : bitIn(now.kept.helper, place);
            default:
                return place == NONE ? NONE : bitIn(now.kept.bits, place);
        }
    }

    public int bit(int pair, int heat) throws NoSuchElementException, IllegalArgumentException {
        needCounted(pair, now.slip.pairs);
        needHeat(heat);
        return now.slip.bitAt(pair, heat);
    }

    public int flips(int pair, int what) throws NoSuchElementException, IllegalArgumentException {
        needCounted(pair, now.slip.pairs);
        needBetween(what, 0, 1);
        int usual = now.slip.bitOf(pair);
        int many = 0;
        int earliest = NO_HEAT;
        for (int heat = now.slip.settings[LOW]; heat <= now.slip.settings[HIGH]; heat++) {
            if (now.slip.bitAt(pair, heat) != usual) {
                many++;
                earliest = Math.min(earliest, heat);
            }
        }
        return what == 0 ? many : earliest;
    }

    public int odds(int pair, int heat, boolean lower)
            throws NoSuchElementException, IllegalArgumentException {
        needCounted(pair, now.slip.pairs);
        needHeat(heat);
        int all = now.slip.drawsOf(pair);
        int ones = now.slip.drawsWithOne(pair, heat);
        int other = now.slip.bitOf(pair) == 1 ? all - ones : ones;
        int shared = commonDivisor(all, other);
        return (lower ? all : other) / shared;
    }

    public int block(int block, int k) throws NoSuchElementException {
        int used = now.slip.usedPairs();
        needCounted(block, now.slip.blockCount(used));
        int length = Code.lengthOf(now.slip.settings[REPEAT]);
        if (k < 0 || k >= length) {
            return NONE;
        }
        return now.slip.pairAt(used, block * length + k);
    }

    // ---- what comes back, and how surely ----

    public int recover(int heat, int seed, int what)
            throws IllegalStateException, IllegalArgumentException {
        needEnrolled();
        needHeat(heat);
        needBetween(seed, 0, MAX_SEED);
        needBetween(what, 0, 5);
        reading.seed = seed;
        reading.take(now, heat);
        switch (what) {
            case 0:
                return reading.secret;
            case 1:
                return reading.raw;
            case 2:
                return reading.corrected;
            case 3:
                return reading.isRefused(now.kept) ? 1 : 0;
            case 4:
                return reading.secret == now.kept.secret ? 1 : 0;
            default:
                return reading.seed;
        }
    }

    public int fails(int heat, int seed, int many, int what)
            throws IllegalStateException, IllegalArgumentException {
        needEnrolled();
        needHeat(heat);
        needBetween(seed, 0, MAX_SEED);
        needBetween(many, 1, MAX_READINGS);
        needBetween(what, 0, 2);
        int wrong = 0;
        int wrongTaken = 0;
        int mostRaw = 0;
        reading.seed = seed;
        for (int i = 0; i < many; i++) {
            reading.take(now, heat);
            mostRaw = Math.max(mostRaw, reading.raw);
            if (reading.secret != now.kept.secret) {
                wrong++;
                wrongTaken += reading.isRefused(now.kept) ? 0 : 1;
            }
        }
        return what == 0 ? wrong : what == 1 ? wrongTaken : mostRaw;
    }

    public int safe(int heat, int what) throws IllegalStateException, IllegalArgumentException {
        needEnrolled();
        needHeat(heat);
        needBetween(what, 0, 2);
        int shaky = now.kept.shakyAt(now.slip, heat);
        if (what == 0) {
            return Integer.bitCount(shaky);
        }
        return what == 1 ? now.kept.safeBlocks(shaky) : now.kept.firstUnsafe(shaky);
    }

    public int range(int what) throws IllegalStateException, IllegalArgumentException {
        needEnrolled();
        needBetween(what, 0, 1);
        if (!isSafeAt(USUAL_HEAT)) {
            return NO_HEAT;
        }
        int step = what == 0 ? -1 : 1;
        int last = USUAL_HEAT;
        for (int heat = last + step; heat >= COLDEST && heat <= HOTTEST; heat += step) {
            if (!isSafeAt(heat)) {
                return last;
            }
            last = heat;
        }
        return last;
    }

    public int guardFor(int blocks) throws IllegalArgumentException {
        needBetween(blocks, 1, MAX_PAIRS);
        Slip slip = now.slip;
        int repeat = slip.settings[REPEAT];
        if (blocks * Code.bitsOf(repeat) > MAX_SECRET_BITS) {
            return NONE;
        }
        for (int i = 0; i < slip.pairs; i++) {
            margins[i] = slip.marginOf(i);
        }
        int wanted = blocks * Code.lengthOf(repeat);
        int best = NONE;
        for (int i = 0; i < slip.pairs; i++) {
            // With the guard just below this margin, the pairs that reach the margin are steady.
            if (margins[i] - 1 > best && marginsFrom(margins[i]) >= wanted) {
                best = margins[i] - 1;
            }
        }
        return Math.min(best, MAX_GUARD);
    }

    public long ways(int what) throws IllegalArgumentException {
        needBetween(what, 0, 2);
        if (what == 2) {
            return now.kept.isEmpty() ? 0 : waysCounter.count(now.slip, now.kept.pairsAsSet());
        }
        int chosen = what == 0 ? now.slip.allPairs() : now.slip.usedPairs();
        return waysCounter.count(now.slip, chosen);
    }

    public int leak(int what) throws IllegalStateException, IllegalArgumentException {
        needEnrolled();
        needBetween(what, 0, 4);
        switch (what) {
            case 0:
                return sureOfEnrolled();
            case 1:
                return now.kept.leaked();
            case 2:
                return Math.max(0, sureOfEnrolled() - now.kept.leaked());
            case 3:
                order.clear();
                return leftCounter.count(now.slip, now.kept, order);
            default:
                now.listener.putInto(order, now.slip);
                return leftCounter.count(now.slip, now.kept, order);
        }
    }

    // ---- one who listens ----

    public int success(int what) throws IllegalArgumentException {
        needBetween(what, 0, 3);
        Slip slip = now.slip;
        Listener listener = now.listener;
        listener.putInto(order, slip);
        int many = 0;
        for (int i = 0; i < slip.pairs; i++) {
            int guess = listener.guessOf(slip, i);
            int follows = order.bitTold(slip.first[i], slip.second[i]);
            boolean counts;
            if (what == 0) {
                counts = follows != NONE;
            } else if (what == 1) {
                counts = !listener.hasHeard(i) && guess == slip.bitOf(i);
            } else if (what == 2) {
                counts = listener.hasHeard(i) && guess == listener.heardBitOf(i);
            } else {
                counts = follows != NONE && follows != slip.bitOf(i);
            }
            many += counts ? 1 : 0;
        }
        return many;
    }

    public int curve(int heard, int what) throws IllegalArgumentException {
        needBetween(heard, 0, now.slip.pairs);
        needBetween(what, 0, 2);
        imagined.clear();
        for (int i = 0; i < heard; i++) {
            imagined.keep(i, now.slip.bitOf(i));
        }
        int epochs = epochsToLearn(imagined);
        if (what == 0) {
            return epochs;
        }
        return what == 1 ? guessedRight(heard, now.slip.pairs) : guessedRight(0, heard);
    }

    public int nextPair() {
        return nextFor(now.listener);
    }

    public int needs() {
        imagined.copyFrom(now.listener);
        for (int many = 0; many < MAX_PAIRS; many++) {
            int next = nextFor(imagined);
            if (next == NONE) {
                return many;
            }
            imagined.keep(next, now.slip.bitOf(next));
        }
        return MAX_PAIRS;
    }

    public long print() {
        long sum = 0;
        for (int i = 0; i < now.slip.pairs; i++) {
            sum = 31 * sum + now.slip.bitOf(i);
            sum = 31 * sum + now.slip.marginOf(i);
        }
        return sum;
    }

    public int status(int what) {
        switch (what) {
            case 0:
                return refusedMissing;
            case 1:
                return refusedArgument;
            case 2:
                return refusedState;
            default:
                return NONE;
        }
    }

    // ---- refusals ----

    private void refuseArgument() {
        refusedArgument++;
        throw new IllegalArgumentException("an argument is out of its range");
    }

    private void refuseState() {
        refusedState++;
        throw new IllegalStateException("nothing is there to do it with");
    }

    private void refuseMissing() {
        refusedMissing++;
        throw new NoSuchElementException("there is none of this number");
    }

    private void needCounted(int number, int count) {
        if (number < 0 || number >= count) {
            refuseMissing();
        }
    }

    private void needBetween(int value, int least, int most) {
        if (value < least || value > most) {
            refuseArgument();
        }
    }

    private void needHeat(int heat) {
        needBetween(heat, COLDEST, HOTTEST);
    }

    private void needEnrolled() {
        if (now.kept.isEmpty()) {
            refuseState();
        }
    }

    private void needSetting(int what, int v) {
        switch (what) {
            case GUARD:
                needBetween(v, 0, MAX_GUARD);
                break;
            case LOW:
                needBetween(v, COLDEST, now.slip.settings[HIGH]);
                break;
            case HIGH:
                needBetween(v, now.slip.settings[LOW], HOTTEST);
                break;
            case ALL:
                needBetween(v, 0, 1);
                break;
            default:
                if (v != HAMMING && !Code.isRepeat(v)) {
                    refuseArgument();
                }
        }
    }

    private void needTrait(int what, int v) {
        switch (what) {
            case BASE:
                needBetween(v, 0, MAX_BASE);
                break;
            case DRIFT:
                needBetween(v, -MAX_DRIFT, MAX_DRIFT);
                break;
            default:
                needBetween(v, 0, MAX_NOISE);
        }
    }

    // ---- help for the calls ----

    private void remember() {
        past[pastTop].copyFrom(now);
        pastTop = (pastTop + 1) % MAX_PAST;
        pastCount = Math.min(pastCount + 1, MAX_PAST);
    }

    private int toldOfEnrolled(int what) {
        Enrolment kept = now.kept;
        if (kept.isEmpty()) {
            return NONE;
        }
        switch (what) {
            case 14:
                return kept.count;
            case 15:
                return kept.secretBits();
            case 16:
                return kept.secret;
            default:
                return kept.check;
        }
    }

    private boolean isSafeAt(int heat) {
        return now.kept.firstUnsafe(now.kept.shakyAt(now.slip, heat)) == NONE;
    }

    private int marginsFrom(int least) {
        int many = 0;
        for (int i = 0; i < now.slip.pairs; i++) {
            many += margins[i] >= least ? 1 : 0;
        }
        return many;
    }

    private int sureOfEnrolled() {
        long found = waysCounter.count(now.slip, now.kept.pairsAsSet());
        int sure = 0;
        while (sure < 62 && (2L << sure) <= found) {
            sure++;
        }
        return sure;
    }

    private int epochsToLearn(Listener learner) {
        for (int epochs = 1; epochs <= MAX_EPOCHS; epochs++) {
            if (learner.learn(now.slip) == 0) {
                return epochs;
            }
        }
        return MAX_EPOCHS;
    }

    private int guessedRight(int from, int end) {
        int many = 0;
        for (int i = from; i < end; i++) {
            many += imagined.guessOf(now.slip, i) == now.slip.bitOf(i) ? 1 : 0;
        }
        return many;
    }

    private int nextFor(Listener listener) {
        Slip slip = now.slip;
        listener.putInto(order, slip);
        int next = NONE;
        int most = NONE;
        for (int i = 0; i < slip.pairs; i++) {
            int a = slip.first[i];
            int b = slip.second[i];
            if (!listener.hasHeard(i) && order.bitTold(a, b) == NONE) {
                int fewer = Math.min(followersIf(a, b), followersIf(b, a));
                if (fewer > most) {
                    most = fewer;
                    next = i;
                }
            }
        }
        return next;
    }

    private int followersIf(int front, int back) {
        trial.copyFrom(order);
        trial.put(front, back);
        int many = 0;
        for (int i = 0; i < now.slip.pairs; i++) {
            many += trial.bitTold(now.slip.first[i], now.slip.second[i]) != NONE ? 1 : 0;
        }
        return many;
    }

    private static int bitIn(int bits, int place) {
        return (bits >> place) & 1;
    }

    private static int commonDivisor(int one, int other) {
        int great = one;
        int small = other;
        for (int i = 0; i < 64 && small != 0; i++) {
            int rest = great % small;
            great = small;
            small = rest;
        }
        return Math.max(great, 1);
    }

    /** All that undo() takes back. */
    private static final class State {
        final Slip slip = new Slip();
        final Enrolment kept = new Enrolment();
        final Listener listener = new Listener();

        void copyFrom(State other) {
            slip.copyFrom(other.slip);
            kept.copyFrom(other.kept);
            listener.copyFrom(other.listener);
        }
    }

    /** Rings, pairs, settings, and what follows from these alone. Sets of pairs are bits of an int. */
    private static final class Slip {
        int rings;
        final int[] base = new int[MAX_RINGS];
        final int[] drift = new int[MAX_RINGS];
        final int[] noise = new int[MAX_RINGS];
        int pairs;
        final int[] first = new int[MAX_PAIRS];
        final int[] second = new int[MAX_PAIRS];
        final int[] settings = new int[SETTINGS];

        Slip() {
            settings[LOW] = USUAL_HEAT;
            settings[HIGH] = USUAL_HEAT;
            settings[REPEAT] = 3;
        }

        void clear() {
            rings = 0;
            pairs = 0;
            settings[GUARD] = 0;
            settings[LOW] = USUAL_HEAT;
            settings[HIGH] = USUAL_HEAT;
            settings[ALL] = 0;
            settings[REPEAT] = 3;
        }

        void copyFrom(Slip other) {
            rings = other.rings;
            System.arraycopy(other.base, 0, base, 0, MAX_RINGS);
            System.arraycopy(other.drift, 0, drift, 0, MAX_RINGS);
            System.arraycopy(other.noise, 0, noise, 0, MAX_RINGS);
            pairs = other.pairs;
            System.arraycopy(other.first, 0, first, 0, MAX_PAIRS);
            System.arraycopy(other.second, 0, second, 0, MAX_PAIRS);
            System.arraycopy(other.settings, 0, settings, 0, SETTINGS);
        }

        int[] traitRow(int what) {
            return what == BASE ? base : what == DRIFT ? drift : noise;
        }

        void addRing(int newBase, int newDrift, int newNoise) {
            if (rings < MAX_RINGS) {
                base[rings] = newBase;
                drift[rings] = newDrift;
                noise[rings] = newNoise;
                rings++;
            }
        }

        void addPair(int a, int b) {
            if (pairs < MAX_PAIRS) {
                first[pairs] = a;
                second[pairs] = b;
                pairs++;
            }
        }

        boolean hasPair(int a, int b) {
            for (int i = 0; i < pairs; i++) {
                if ((first[i] == a && second[i] == b) || (first[i] == b && second[i] == a)) {
                    return true;
                }
            }
            return false;
        }

        int pairsWith(int ring) {
            int many = 0;
            for (int i = 0; i < pairs; i++) {
                many += first[i] == ring || second[i] == ring ? 1 : 0;
            }
            return many;
        }

        int speedOf(int ring, int heat) {
            return base[ring] + drift[ring] * (heat - USUAL_HEAT) / 10;
        }

        int ringsAheadOf(int ring, int heat) {
            int own = speedOf(ring, heat);
            int many = 0;
            for (int i = 0; i < rings; i++) {
                int its = speedOf(i, heat);
                many += its > own || (its == own && i < ring) ? 1 : 0;
            }
            return many;
        }

        /** The bit of a pair whose rings were read as fast as this. */
        int bitFrom(int pair, int speedA, int speedB) {
            if (speedA == speedB) {
                return first[pair] < second[pair] ? 1 : 0;
            }
            return speedA > speedB ? 1 : 0;
        }

        int bitAt(int pair, int heat) {
            return bitFrom(pair, speedOf(first[pair], heat), speedOf(second[pair], heat));
        }

        /** At the usual heat, where drift tells nothing. */
        int bitOf(int pair) {
            return bitFrom(pair, base[first[pair]], base[second[pair]]);
        }

        int marginOf(int pair) {
            int a = first[pair];
            int b = second[pair];
            int sign = bitOf(pair) == 1 ? 1 : -1;
            int least = sign * (base[a] - base[b]);
            for (int heat = settings[LOW]; heat <= settings[HIGH]; heat++) {
                least = Math.min(least, sign * (speedOf(a, heat) - speedOf(b, heat)));
            }
            return least - noise[a] - noise[b];
        }

        int allPairs() {
            return (1 << pairs) - 1;
        }

        int steadyPairs() {
            int steady = 0;
            for (int i = 0; i < pairs; i++) {
                steady |= marginOf(i) > settings[GUARD] ? 1 << i : 0;
            }
            return steady;
        }

        int usedPairs() {
            return settings[ALL] == 1 ? allPairs() : steadyPairs();
        }

        int blockCount(int used) {
            int full = Integer.bitCount(used) / Code.lengthOf(settings[REPEAT]);
            return Math.min(full, MAX_SECRET_BITS / Code.bitsOf(settings[REPEAT]));
        }

        int blockOf(int pair) {
            int used = usedPairs();
            if (bitIn(used, pair) == 0) {
                return NONE;
            }
            int ahead = Integer.bitCount(used & ((1 << pair) - 1));
            int block = ahead / Code.lengthOf(settings[REPEAT]);
            return block < blockCount(used) ? block : NONE;
        }

        int pairAt(int used, int place) {
            int seen = 0;
            for (int i = 0; i < pairs; i++) {
                if (bitIn(used, i) == 1) {
                    if (seen == place) {
                        return i;
                    }
                    seen++;
                }
            }
            return NONE;
        }

        /** Whether some draws of both rings' noise give this bit. */
        boolean canRead(int pair, int heat, int wanted) {
            int a = first[pair];
            int b = second[pair];
            int swing = noise[a] + noise[b];
            int favoured = speedOf(a, heat) + (wanted == 1 ? swing : -swing);
            return bitFrom(pair, favoured, speedOf(b, heat)) == wanted;
        }

        int drawsOf(int pair) {
            return (2 * noise[first[pair]] + 1) * (2 * noise[second[pair]] + 1);
        }

        /** How many of all draws of both rings' noise give the bit 1. */
        int drawsWithOne(int pair, int heat) {
            int a = first[pair];
            int b = second[pair];
            int middle = speedOf(a, heat);
            int slowest = speedOf(b, heat) - noise[b];
            int drawsOfB = 2 * noise[b] + 1;
            int winsTies = a < b ? 1 : 0;
            int many = 0;
            for (int fast = middle - noise[a]; fast <= middle + noise[a]; fast++) {
                int beaten = fast - slowest + winsTies;
                many += Math.max(0, Math.min(beaten, drawsOfB));
            }
            return many;
        }
    }

    /** The codes; a block's word has its place 1 in the lowest bit, its data the first bit there. */
    private static final class Code {
        private static final int HAMMING_LENGTH = 7;
        private static final int HAMMING_BITS = 4;
        /** Of places 1 to 7 the data bits that are added there: p1 p2 d1 p3 d2 d3 d4. */
        private static final int[] HAMMING_PARTS = {11, 13, 1, 14, 2, 4, 8};
        /** The places that c1, c2 and c3 add. */
        private static final int[] HAMMING_SUMS = {85, 102, 120};
        private static final int CHECK_BITS = 4;

        static boolean isRepeat(int v) {
            return v == 1 || v == 3 || v == 5 || v == 7;
        }

        static int lengthOf(int repeat) {
            return repeat == HAMMING ? HAMMING_LENGTH : Math.max(repeat, 1);
        }

        static int bitsOf(int repeat) {
            return repeat == HAMMING ? HAMMING_BITS : 1;
        }

        static int mendedBy(int repeat) {
            return repeat == HAMMING ? 1 : (repeat - 1) / 2;
        }

        static int wordOf(int repeat, int data) {
            if (repeat != HAMMING) {
                return data == 1 ? (1 << repeat) - 1 : 0;
            }
            int word = 0;
            for (int i = 0; i < HAMMING_LENGTH; i++) {
                word |= (Integer.bitCount(data & HAMMING_PARTS[i]) & 1) << i;
            }
            return word;
        }

        static int decodedFrom(int repeat, int word) {
            if (repeat != HAMMING) {
                return 2 * Integer.bitCount(word) > repeat ? 1 : 0;
            }
            int place = 0;
            for (int i = 0; i < 3; i++) {
                place |= (Integer.bitCount(word & HAMMING_SUMS[i]) & 1) << i;
            }
            int mended = place == 0 ? word : word ^ (1 << (place - 1));
            return bitIn(mended, 2) | bitIn(mended, 4) << 1
                    | bitIn(mended, 5) << 2 | bitIn(mended, 6) << 3;
        }

        /** The words of all blocks of a secret, the first block's lowest. */
        static int wordsOf(int repeat, int blocks, int secret) {
            int bits = bitsOf(repeat);
            int words = 0;
            for (int i = 0; i < blocks; i++) {
                int data = (secret >> (i * bits)) & ((1 << bits) - 1);
                words |= wordOf(repeat, data) << (i * lengthOf(repeat));
            }
            return words;
        }

        static int secretFrom(int repeat, int blocks, int words) {
            int length = lengthOf(repeat);
            int secret = 0;
            for (int i = 0; i < blocks; i++) {
                int word = (words >> (i * length)) & ((1 << length) - 1);
                secret |= decodedFrom(repeat, word) << (i * bitsOf(repeat));
            }
            return secret;
        }

        /** The check that becomes of one when so many more bits come, the lowest first. */
        static int checkWith(int check, int data, int many) {
            int sum = check;
            for (int i = 0; i < many; i++) {
                sum = 2 * sum + bitIn(data, i);
                if (sum > 15) {
                    sum = (sum - 16) ^ 3;
                }
            }
            return sum;
        }

        /** Whether some bits, so many, lead from a check to another: they reach as many low places. */
        static boolean canBecome(int check, int many, int wanted) {
            return many >= CHECK_BITS || (checkWith(check, 0, many) ^ wanted) >> many == 0;
        }
    }

    /** What is enrolled; the k-th enrolled pair's bits are the k-th of bits and helper. */
    private static final class Enrolment {
        int count;
        final int[] pairs = new int[MAX_PAIRS];
        int repeat;
        int blocks;
        int bits;
        int helper;
        int firstHelper;
        int secret;
        int check;

        void clear() {
            count = 0;
            blocks = 0;
        }

        void copyFrom(Enrolment other) {
            count = other.count;
            System.arraycopy(other.pairs, 0, pairs, 0, MAX_PAIRS);
            repeat = other.repeat;
            blocks = other.blocks;
            bits = other.bits;
            helper = other.helper;
            firstHelper = other.firstHelper;
            secret = other.secret;
            check = other.check;
        }

        boolean isEmpty() {
            return count == 0;
        }

        void keep(Slip slip, int used, int newBlocks, int newSecret) {
            repeat = slip.settings[REPEAT];
            blocks = newBlocks;
            secret = newSecret;
            check = Code.checkWith(0, secret, secretBits());
            int wanted = blocks * Code.lengthOf(repeat);
            count = 0;
            bits = 0;
            for (int i = 0; i < slip.pairs && count < wanted; i++) {
                if (bitIn(used, i) == 1) {
                    pairs[count] = i;
                    bits |= slip.bitOf(i) << count;
                    count++;
                }
            }
            firstHelper = bits ^ Code.wordsOf(repeat, blocks, secret);
            helper = firstHelper;
        }

        int secretBits() {
            return blocks * Code.bitsOf(repeat);
        }

        int placeOf(int pair) {
            for (int i = 0; i < count; i++) {
                if (pairs[i] == pair) {
                    return i;
                }
            }
            return NONE;
        }

        int pairsAsSet() {
            int chosen = 0;
            for (int i = 0; i < count; i++) {
                chosen |= 1 << pairs[i];
            }
            return chosen;
        }

        /** The places whose bit some draws at a heat turn. */
        int shakyAt(Slip slip, int heat) {
            int shaky = 0;
            for (int i = 0; i < count; i++) {
                int other = 1 - bitIn(bits, i);
                shaky |= slip.canRead(pairs[i], heat, other) ? 1 << i : 0;
            }
            return shaky;
        }

        boolean isSafeBlock(int block, int shaky) {
            int length = Code.lengthOf(repeat);
            int spoilt = shaky | (helper ^ firstHelper);
            int own = (spoilt >> (block * length)) & ((1 << length) - 1);
            return Integer.bitCount(own) <= Code.mendedBy(repeat);
        }

        int safeBlocks(int shaky) {
            int many = 0;
            for (int i = 0; i < blocks; i++) {
                many += isSafeBlock(i, shaky) ? 1 : 0;
            }
            return many;
        }

        int firstUnsafe(int shaky) {
            for (int i = 0; i < blocks; i++) {
                if (!isSafeBlock(i, shaky)) {
                    return i;
                }
            }
            return NONE;
        }

        int leaked() {
            return blocks * (Code.lengthOf(repeat) - Code.bitsOf(repeat)) + Code.CHECK_BITS;
        }
    }

    /** One reading of what is enrolled, and what is recovered from it; the seed goes on. */
    private static final class Reading {
        int seed;
        int raw;
        int secret;
        int corrected;

        void take(State state, int heat) {
            Enrolment kept = state.kept;
            int read = 0;
            for (int i = 0; i < kept.count; i++) {
                int pair = kept.pairs[i];
                int speedA = noisySpeed(state.slip, state.slip.first[pair], heat);
                int speedB = noisySpeed(state.slip, state.slip.second[pair], heat);
                read |= state.slip.bitFrom(pair, speedA, speedB) << i;
            }
            raw = Integer.bitCount(read ^ kept.bits);
            int words = read ^ kept.helper;
            secret = Code.secretFrom(kept.repeat, kept.blocks, words);
            int meant = Code.wordsOf(kept.repeat, kept.blocks, secret);
            corrected = Integer.bitCount(words ^ meant);
        }

        boolean isRefused(Enrolment kept) {
            return Code.checkWith(0, secret, kept.secretBits()) != kept.check;
        }

        private int noisySpeed(Slip slip, int ring, int heat) {
            int still = slip.speedOf(ring, heat);
            int noise = slip.noise[ring];
            if (noise <= 0) {
                return still;
            }
            seed = (75 * seed + 74) % 65537;
            return still + seed % (2 * noise + 1) - noise;
        }
    }

    /** One who listens: bits heard, in order, and a model of weights. */
    private static final class Listener {
        int count;
        final int[] pairs = new int[MAX_PAIRS];
        private int heard;
        private int heardBits;
        final int[] weights = new int[MAX_RINGS];

        void clear() {
            count = 0;
            heard = 0;
            heardBits = 0;
            for (int i = 0; i < MAX_RINGS; i++) {
                weights[i] = 0;
            }
        }

        void copyFrom(Listener other) {
            count = other.count;
            System.arraycopy(other.pairs, 0, pairs, 0, MAX_PAIRS);
            heard = other.heard;
            heardBits = other.heardBits;
            System.arraycopy(other.weights, 0, weights, 0, MAX_RINGS);
        }

        boolean hasHeard(int pair) {
            return bitIn(heard, pair) == 1;
        }

        int heardBitOf(int pair) {
            return hasHeard(pair) ? bitIn(heardBits, pair) : NONE;
        }

        void keep(int pair, int itsBit) {
            if (!hasHeard(pair) && count < MAX_PAIRS) {
                pairs[count] = pair;
                count++;
            }
            heard |= 1 << pair;
            heardBits = (heardBits & ~(1 << pair)) | (itsBit << pair);
        }

        int guessOf(Slip slip, int pair) {
            return slip.bitFrom(pair, weights[slip.first[pair]], weights[slip.second[pair]]);
        }

        /** One epoch: how many guesses were wrong. */
        int learn(Slip slip) {
            int wrong = 0;
            for (int i = 0; i < count; i++) {
                int pair = pairs[i];
                int due = heardBitOf(pair);
                if (guessOf(slip, pair) != due) {
                    int step = due == 1 ? 1 : -1;
                    weights[slip.first[pair]] += step;
                    weights[slip.second[pair]] -= step;
                    wrong++;
                }
            }
            return wrong;
        }

        void putInto(Order order, Slip slip) {
            order.clear();
            for (int i = 0; i < count; i++) {
                order.putPair(slip, pairs[i], heardBitOf(pairs[i]));
            }
        }
    }

    /** Who is ahead of whom; all that follows from what was put in is in it at once. */
    private static final class Order {
        /** Of each ring those that are behind it, as bits. */
        private final int[] behind = new int[MAX_RINGS];

        void clear() {
            for (int i = 0; i < MAX_RINGS; i++) {
                behind[i] = 0;
            }
        }

        void copyFrom(Order other) {
            System.arraycopy(other.behind, 0, behind, 0, MAX_RINGS);
        }

        void put(int front, int back) {
            if (bitIn(behind[front], back) == 1) {
                return;
            }
            int gained = behind[back] | (1 << back);
            for (int i = 0; i < MAX_RINGS; i++) {
                if (i == front || bitIn(behind[i], front) == 1) {
                    behind[i] |= gained;
                }
            }
        }

        void putPair(Slip slip, int pair, int itsBit) {
            int a = slip.first[pair];
            int b = slip.second[pair];
            put(itsBit == 1 ? a : b, itsBit == 1 ? b : a);
        }

        boolean isAhead(int front, int back) {
            return bitIn(behind[front], back) == 1;
        }

        /** Whether some ring is ahead of itself. */
        boolean isBroken() {
            for (int i = 0; i < MAX_RINGS; i++) {
                if (isAhead(i, i)) {
                    return true;
                }
            }
            return false;
        }

        int bitTold(int a, int b) {
            if (isAhead(a, b) == isAhead(b, a)) {
                return NONE;
            }
            return isAhead(a, b) ? 1 : 0;
        }
    }

    /**
     * Counts rows of bits that some order of rings gives: the ways to point each pair without a
     * circle. Taking the rings that none is ahead of away from a set leaves a smaller set; those
     * that might be such are sets with no pair inside, counted in and out by turns.
     */
    private static final class WaysCounter {
        private final int[] linked = new int[MAX_RINGS];
        /** Of each set of rings 1 or -1 (as its size is odd or even), 0 with a pair inside. */
        private final int[] signs = new int[1 << MAX_RINGS];
        private final long[] found = new long[1 << MAX_RINGS];

        long count(Slip slip, int chosen) {
            link(slip, chosen);
            signs[0] = -1;
            found[0] = 1;
            for (int last = 0; last < slip.rings; last++) {
                for (int others = 0; others < 1 << last; others++) {
                    int rings = others | (1 << last);
                    signs[rings] = (linked[last] & others) == 0 ? -signs[others] : 0;
                    found[rings] = countOf(rings);
                }
            }
            return found[(1 << slip.rings) - 1];
        }

        private long countOf(int rings) {
            long sum = 0;
            for (int part = rings; part > 0; part = (part - 1) & rings) {
                sum += signs[part] * found[rings ^ part];
            }
            return sum;
        }

        private void link(Slip slip, int chosen) {
            for (int i = 0; i < MAX_RINGS; i++) {
                linked[i] = 0;
            }
            for (int i = 0; i < slip.pairs; i++) {
                if (bitIn(chosen, i) == 1) {
                    linked[slip.first[i]] |= 1 << slip.second[i];
                    linked[slip.second[i]] |= 1 << slip.first[i];
                }
            }
        }
    }

    /** Counts the secrets that helper and check leave, block by block, without orders in a circle. */
    private static final class LeftCounter {
        private final Order[] orders = new Order[MAX_SECRET_BITS + 1];

        LeftCounter() {
            for (int i = 0; i <= MAX_SECRET_BITS; i++) {
                orders[i] = new Order();
            }
        }

        int count(Slip slip, Enrolment kept, Order known) {
            if (known.isBroken()) {
                return 0;
            }
            orders[0].copyFrom(known);
            return countFrom(slip, kept, 0, 0);
        }

        private int countFrom(Slip slip, Enrolment kept, int block, int check) {
            if (block >= kept.blocks || block >= MAX_SECRET_BITS) {
                return check == kept.check ? 1 : 0;
            }
            int bits = Code.bitsOf(kept.repeat);
            int bitsBehind = kept.secretBits() - (block + 1) * bits;
            int many = 0;
            for (int data = 0; data < 1 << bits; data++) {
                int checkThen = Code.checkWith(check, data, bits);
                // A check that cannot come out is seen first, as orders are dear.
                if (Code.canBecome(checkThen, bitsBehind, kept.check)
                        && putBlock(slip, kept, block, data)) {
                    many += countFrom(slip, kept, block + 1, checkThen);
                }
            }
            return many;
        }

        /** Puts the bits that the helper gives for a block's data into the next order. */
        private boolean putBlock(Slip slip, Enrolment kept, int block, int data) {
            Order next = orders[block + 1];
            next.copyFrom(orders[block]);
            int length = Code.lengthOf(kept.repeat);
            int bits = Code.wordOf(kept.repeat, data) ^ (kept.helper >> (block * length));
            for (int i = 0; i < length; i++) {
                int pair = kept.pairs[block * length + i];
                int itsBit = bitIn(bits, i);
                if (next.bitTold(slip.first[pair], slip.second[pair]) == 1 - itsBit) {
                    return false;
                }
                next.putPair(slip, pair, itsBit);
            }
            return true;
        }
    }

    /** The tape; reads a text on it into a draft, up to its first fault. */
    private static final class TextReader {
        private static final int OUT_OF_PLACE = 1;
        private static final int NO_SUCH_NUMBER = 2;
        private static final int TOO_MANY = 3;
        private static final int TOLD_ALREADY = 4;
        private static final int BLANK = 32;
        private static final int TOO_GREAT = 100000;

        final Slip draft = new Slip();
        int faultPlace = NONE;
        private int faultKind;
        private final int[] tape = new int[MAX_BYTES];
        int tapeLength;
        private int length;
        private int place;
        /** Where the number that was read last begins. */
        private int numberPlace;

        void putOnTape(int number) {
            for (int shift = 24; shift >= 0; shift -= 8) {
                if (tapeLength < MAX_BYTES) {
                    tape[tapeLength] = (number >> shift) & 255;
                    tapeLength++;
                }
            }
        }

        /** Reads the first n bytes and empties the tape: the fault's kind, 0 without. */
        int read(int n) {
            length = Math.min(n, tapeLength);
            tapeLength = 0;
            place = 0;
            faultKind = 0;
            faultPlace = NONE;
            draft.clear();
            skipBlanks();
            for (int lines = 0; lines < MAX_BYTES && place < length && faultKind == 0; lines++) {
                readLine();
                readEndOfLine();
                skipBlanks();
            }
            return faultKind;
        }

        private void fail(int kind, int where) {
            if (faultKind == 0) {
                faultKind = kind;
                faultPlace = where;
            }
        }

        private void skipBlanks() {
            while (place < length && tape[place] == BLANK) {
                place++;
            }
        }

        private void readLine() {
            int start = place;
            while (place < length && tape[place] >= 'a' && tape[place] <= 'z') {
                place++;
            }
            if (isWord(start, "ring")) {
                readRing(start);
            } else if (isWord(start, "pair")) {
                readPair(start);
            } else if (isWord(start, "guard")) {
                draft.settings[GUARD] = readNumber(0, MAX_GUARD);
            } else if (isWord(start, "heats")) {
                draft.settings[LOW] = readSigned(COLDEST, HOTTEST);
                draft.settings[HIGH] = readSigned(draft.settings[LOW], HOTTEST);
            } else if (isWord(start, "all")) {
                draft.settings[ALL] = 1;
            } else if (isWord(start, "repeat")) {
                readRepeat();
            } else if (isWord(start, "hamming")) {
                draft.settings[REPEAT] = HAMMING;
            } else {
                fail(OUT_OF_PLACE, start);
            }
        }

        private void readEndOfLine() {
            skipBlanks();
            if (place < length && tape[place] == ';') {
                place++;
            } else {
                fail(OUT_OF_PLACE, place);
            }
        }

        private boolean isWord(int start, String word) {
            if (place - start != word.length()) {
                return false;
            }
            for (int i = 0; i < word.length(); i++) {
                if (tape[start + i] != word.charAt(i)) {
                    return false;
                }
            }
            return true;
        }

        private void readRing(int start) {
            if (draft.rings == MAX_RINGS) {
                fail(TOO_MANY, start);
            }
            int base = readNumber(0, MAX_BASE);
            int drift = readSigned(-MAX_DRIFT, MAX_DRIFT);
            int noise = readNumber(0, MAX_NOISE);
            draft.addRing(base, drift, noise);
        }

        private void readPair(int start) {
            if (draft.pairs == MAX_PAIRS) {
                fail(TOO_MANY, start);
            }
            int a = readNumber(0, draft.rings - 1);
            int placeOfA = numberPlace;
            int b = readNumber(0, draft.rings - 1);
            if (a == b) {
                fail(NO_SUCH_NUMBER, numberPlace);
            }
            if (draft.hasPair(a, b)) {
                fail(TOLD_ALREADY, placeOfA);
            }
            draft.addPair(a, b);
        }

        private void readRepeat() {
            int repeat = readNumber(1, 7);
            if (!Code.isRepeat(repeat)) {
                fail(NO_SUCH_NUMBER, numberPlace);
            }
            draft.settings[REPEAT] = repeat;
        }

        private int readNumber(int least, int most) {
            skipBlanks();
            numberPlace = place;
            int value = readDigits();
            needNumber(value, least, most);
            return value;
        }

        private int readSigned(int least, int most) {
            skipBlanks();
            int start = place;
            boolean isMinus = place < length && tape[place] == '-';
            if (isMinus) {
                place++;
                skipBlanks();
            }
            numberPlace = start;
            int digits = readDigits();
            int value = isMinus ? -digits : digits;
            needNumber(value, least, most);
            return value;
        }

        private void needNumber(int value, int least, int most) {
            if (value < least || value > most) {
                fail(NO_SUCH_NUMBER, numberPlace);
            }
        }

        private int readDigits() {
            int start = place;
            int value = 0;
            while (place < length && tape[place] >= '0' && tape[place] <= '9') {
                // Any value above all limits will do for a number of many digits.
                value = value >= TOO_GREAT ? value : 10 * value + tape[place] - '0';
                place++;
            }
            if (place == start) {
                fail(OUT_OF_PLACE, start);
            }
            return value;
        }
    }
}
