import java.util.Arrays;

/** Sketches of how many unlike things streams had. The numbered promises of DOC.md say what each call answers. */
public final class JoinedSketches {
    public static final int NO_SUCH = -1, BAD_VALUE = -2, BAD_TEXT = -3, TOO_MANY = -4, NOT_POSSIBLE = -5, NONE = -6;

    private static final int SKETCHES = 6;
    private static final int THINGS = 100000;
    private static final int GREATEST_RANGE = 999;
    private static final int SALTS = 65536;
    private static final int FIRST_SALT = 12345;
    private static final int TRIED_SALTS = 256;
    private static final int LEAST_BITS = 2;
    private static final int FIRST_BITS = 4;
    private static final int GREATEST_BITS = 6;
    private static final int GREATEST_RANK = 15;
    private static final int MOST_BUCKETS = 64;
    private static final int LIST_LIMIT = 40;
    private static final int PAD_LIMIT = 80;
    private static final int HISTORY_LIMIT = 6;
    private static final int SLOTS = 2;
    private static final int OFF_ZERO = 100000;

    private final State now;
    private final History history;
    private final State[] slots;
    private final boolean[] saved;
    private final Pad pad;
    // Questions try things out on this one, so that no call makes an object.
    private final Sketch trial;

    public JoinedSketches() {
        now = new State();
        history = new History();
        slots = new State[SLOTS];
        for (int slot = 0; slot < SLOTS; slot++) {
            slots[slot] = new State();
        }
        saved = new boolean[SLOTS];
        pad = new Pad();
        trial = new Sketch();
    }

    // ---- changes

    public int salt(int salt) {
        if (salt < 0 || salt >= SALTS) {
            return BAD_VALUE;
        }
        history.record(now);
        int previous = now.salt;
        now.changeSalt(salt);
        return previous;
    }

    public int bits(int sketch, int bits) {
        Sketch changed = now.sketchAt(sketch);
        if (changed == null) {
            return NO_SUCH;
        }
        if (bits < LEAST_BITS || bits > GREATEST_BITS) {
            return BAD_VALUE;
        }
        history.record(now);
        int previous = changed.bits;
        changed.startAgain(bits);
        return previous;
    }

    public int add(int sketch, int thing) {
        Sketch changed = now.sketchAt(sketch);
        if (changed == null) {
            return NO_SUCH;
        }
        if (!isThing(thing)) {
            return BAD_VALUE;
        }
        history.record(now);
        return takeThings(changed, thing, 1);
    }

    public int addRange(int sketch, int from, int many) {
        Sketch changed = now.sketchAt(sketch);
        if (changed == null) {
            return NO_SUCH;
        }
        if (!isRange(from, many)) {
            return BAD_VALUE;
        }
        history.record(now);
        return takeThings(changed, from, many);
    }

    public int join(int sketch, int other) {
        Sketch changed = now.sketchAt(sketch);
        Sketch second = now.sketchAt(other);
        if (changed == null || second == null) {
            return NO_SUCH;
        }
        if (!areToJoin(changed, second)) {
            return NOT_POSSIBLE;
        }
        history.record(now);
        changed.takeAll(second);
        return changed.estimate();
    }

    public int fold(int sketch) {
        Sketch changed = now.sketchAt(sketch);
        if (changed == null) {
            return NO_SUCH;
        }
        if (!isToFold(changed)) {
            return NOT_POSSIBLE;
        }
        history.record(now);
        changed.halve();
        return changed.buckets();
    }

    public int empty(int sketch) {
        Sketch changed = now.sketchAt(sketch);
        if (changed == null) {
            return NO_SUCH;
        }
        history.record(now);
        int filled = changed.filledBuckets();
        changed.startAgain(changed.bits);
        return filled;
    }

    // ---- what there is

    public int thing(int sketch, int thing, int what) {
        Sketch asked = now.sketchAt(sketch);
        if (asked == null) {
            return NO_SUCH;
        }
        if (!isThing(thing)) {
            return BAD_VALUE;
        }
        int hash = hashOf(thing, now.salt);
        switch (what) {
            case 0: return hash;
            case 1: return asked.bucketOf(hash);
            case 2: return asked.rankOf(hash);
            case 3: return asked.wouldChangeBy(hash) ? 1 : 0;
            default: return BAD_VALUE;
        }
    }

    public int bucket(int sketch, int bucket) {
        Sketch asked = now.sketchAt(sketch);
        if (asked == null || !asked.hasBucket(bucket)) {
            return NO_SUCH;
        }
        return asked.rankIn(bucket);
    }

    public int ofSketch(int sketch, int what) {
        Sketch asked = now.sketchAt(sketch);
        if (asked == null) {
            return NO_SUCH;
        }
        switch (what) {
            case 0: return asked.bits;
            case 1: return asked.buckets();
            case 2: return asked.emptyBuckets();
            case 3: return asked.greatestRank();
            case 4: return asked.rankSum();
            case 5: return asked.rawEstimate();
            case 6: return asked.estimate();
            case 7: return asked.toldError();
            case 8: return asked.full ? NONE : asked.listLength;
            default: return BAD_VALUE;
        }
    }

    public long withRank(int sketch, int rank) {
        Sketch asked = now.sketchAt(sketch);
        if (asked == null) {
            return NO_SUCH;
        }
        if (rank < 0 || rank > GREATEST_RANK) {
            return BAD_VALUE;
        }
        return asked.bucketsWithRank(rank);
    }

    public int listed(int sketch, int place) {
        Sketch asked = now.sketchAt(sketch);
        if (asked == null || !asked.hasPlace(place)) {
            return NO_SUCH;
        }
        return asked.thingAt(place);
    }

    public int count(int what) {
        switch (what) {
            case 0: return now.salt;
            case 1: return now.filledSketches();
            case 2: return now.filledBuckets();
            case 3: return now.fullLists();
            case 4: return pad.length;
            case 5: return history.size;
            default: return BAD_VALUE;
        }
    }

    // ---- questions; nothing changes

    public int together(int one, int other) {
        Sketch first = now.sketchAt(one);
        Sketch second = now.sketchAt(other);
        if (first == null || second == null) {
            return NO_SUCH;
        }
        if (first.bits != second.bits) {
            return NOT_POSSIBLE;
        }
        trial.copyFrom(first);
        trial.takeAll(second);
        return trial.estimate();
    }

    public int alike(int one, int other) {
        Sketch first = now.sketchAt(one);
        Sketch second = now.sketchAt(other);
        if (first == null || second == null) {
            return NO_SUCH;
        }
        if (first.bits != second.bits) {
            return NOT_POSSIBLE;
        }
        return bitsOfShare(first.sameBuckets(second), first.bits);
    }

    public int off(int sketch) {
        Sketch asked = now.sketchAt(sketch);
        if (asked == null) {
            return NO_SUCH;
        }
        if (asked.full) {
            return NOT_POSSIBLE;
        }
        return asked.estimate() - asked.listLength + OFF_ZERO;
    }

    public int nextNew(int sketch, int from) {
        Sketch asked = now.sketchAt(sketch);
        if (asked == null) {
            return NO_SUCH;
        }
        if (!isThing(from)) {
            return BAD_VALUE;
        }
        for (int thing = from; thing < THINGS; thing++) {
            if (asked.wouldChangeBy(hashOf(thing, now.salt))) {
                return thing;
            }
        }
        return NONE;
    }

    public int bestSalt(int sketch) {
        Sketch asked = now.sketchAt(sketch);
        if (asked == null) {
            return NO_SUCH;
        }
        if (asked.full) {
            return NOT_POSSIBLE;
        }
        int best = 0;
        int least = distanceBySalt(asked, 0);
        for (int salt = 1; salt < TRIED_SALTS; salt++) {
            int distance = distanceBySalt(asked, salt);
            if (distance < least) {
                least = distance;
                best = salt;
            }
        }
        return best;
    }

    // ---- texts

    public int put(long characters) {
        int many = charactersIn(characters);
        if (many == 0) {
            return BAD_VALUE;
        }
        if (pad.length + many > PAD_LIMIT) {
            return TOO_MANY;
        }
        for (int left = many - 1; left >= 0; left--) {
            pad.append((char) (characters >>> (8 * left) & 255));
        }
        return pad.length;
    }

    public int wipe() {
        int length = pad.length;
        pad.clear();
        return length;
    }

    public int fault() {
        return pad.faultPlace();
    }

    public int carryOut() {
        if (pad.faultPlace() != NONE) {
            return BAD_TEXT;
        }
        history.record(now);
        int done = 0;
        pad.goToStart();
        while (done < PAD_LIMIT && pad.readOrder() && carryOrderOut()) {
            done++;
            if (!pad.accept(';')) {
                break;
            }
        }
        pad.clear();
        return done;
    }

    // ---- undo, saving

    public int undo() {
        if (history.size == 0) {
            return NOT_POSSIBLE;
        }
        history.takeBack(now);
        return history.size;
    }

    public int save(int slot) {
        if (slot < 0 || slot >= SLOTS) {
            return BAD_VALUE;
        }
        slots[slot].copyFrom(now);
        saved[slot] = true;
        return now.filledBuckets();
    }

    public int restore(int slot) {
        if (slot < 0 || slot >= SLOTS) {
            return BAD_VALUE;
        }
        if (!saved[slot]) {
            return NOT_POSSIBLE;
        }
        history.record(now);
        now.copyFrom(slots[slot]);
        return now.filledBuckets();
    }

    // ---- behind the face

    private static boolean isThing(int thing) {
        return thing >= 0 && thing < THINGS;
    }

    private static boolean isRange(int from, int many) {
        return isThing(from) && many >= 1 && many <= GREATEST_RANGE && from + many <= THINGS;
    }

    private static boolean areToJoin(Sketch one, Sketch other) {
        return one != other && one.bits == other.bits;
    }

    private static boolean isToFold(Sketch sketch) {
        return sketch.bits > LEAST_BITS;
    }

    private static int hashOf(int thing, int salt) {
        // The product may wrap around, but its lowest 16 bits are right all the same.
        int h = (thing * 40503 + salt) & 65535;
        return h ^ (h >> 8);
    }

    private int takeThings(Sketch changed, int from, int many) {
        int changes = 0;
        for (int thing = from; thing < from + many; thing++) {
            if (changed.takeHash(hashOf(thing, now.salt))) {
                changes++;
            }
            changed.list(thing);
        }
        return changes;
    }

    private int distanceBySalt(Sketch asked, int salt) {
        trial.startAgain(asked.bits);
        for (int place = 0; place < asked.listLength; place++) {
            trial.takeHash(hashOf(asked.thingAt(place), salt));
        }
        return Math.abs(trial.estimate() - asked.listLength);
    }

    /** The bits of the float many / 2^bits: it is exact, so its parts can be told without a float. */
    private static int bitsOfShare(int many, int bits) {
        if (many <= 0) {
            return 0;
        }
        int top = 0;
        for (int bit = 1; bit <= GREATEST_BITS; bit++) {
            if (many >> bit != 0) {
                top = bit;
            }
        }
        int exponent = 127 + top - bits;
        int fraction = (many << (23 - top)) & 0x7FFFFF;
        return exponent << 23 | fraction;
    }

    /** How many characters a number holds; 0 also if it is not made of characters as put() wants them. */
    private static int charactersIn(long characters) {
        int many = 0;
        for (int shift = 0; shift < 64; shift += 8) {
            long rest = characters >>> shift;
            if (rest == 0) {
                return many;
            }
            int code = (int) (rest & 255);
            if (code < 33 || code > 126) {
                return 0;
            }
            many++;
        }
        return many;
    }

    /** Carries out the order that was read last, and records nothing; answers false if it would be an error. */
    private boolean carryOrderOut() {
        Sketch changed = now.sketchAt(pad.sketch);
        if (changed == null) {
            return false;
        }
        switch (pad.verb) {
            case ':': return carryThingsOut(changed);
            case '&': return carryJoinOut(changed);
            case '*': return carryRangeOut(changed);
            case '/': return carryFoldOut(changed);
            default:
                changed.startAgain(changed.bits);
                return true;
        }
    }

    private boolean carryThingsOut(Sketch changed) {
        for (int place = 0; place < pad.many; place++) {
            takeThings(changed, pad.numberAt(place), 1);
        }
        return true;
    }

    private boolean carryJoinOut(Sketch changed) {
        Sketch other = now.sketchAt(pad.numberAt(0));
        if (other == null || !areToJoin(changed, other)) {
            return false;
        }
        changed.takeAll(other);
        return true;
    }

    private boolean carryRangeOut(Sketch changed) {
        int from = pad.numberAt(0);
        int many = pad.numberAt(1);
        if (!isRange(from, many)) {
            return false;
        }
        takeThings(changed, from, many);
        return true;
    }

    private static boolean carryFoldOut(Sketch changed) {
        if (!isToFold(changed)) {
            return false;
        }
        changed.halve();
        return true;
    }

    /** One sketch: its buckets with their ranks, and the list of its stream beside it. */
    private static final class Sketch {
        private int bits = FIRST_BITS;
        private final int[] ranks = new int[MOST_BUCKETS];
        private final int[] things = new int[LIST_LIMIT];
        private int listLength = 0;
        private boolean full = false;

        int buckets() {
            return 1 << bits;
        }

        boolean hasBucket(int bucket) {
            return bucket >= 0 && bucket < 1 << bits && bucket < ranks.length;
        }

        int rankIn(int bucket) {
            return hasBucket(bucket) ? ranks[bucket] : 0;
        }

        int bucketOf(int hash) {
            return hash & (buckets() - 1);
        }

        int rankOf(int hash) {
            int left = hash >> bits;
            if (left == 0) {
                return 17 - bits;
            }
            int zerosBelowLowestOne = Integer.bitCount((left & -left) - 1);
            return 1 + zerosBelowLowestOne;
        }

        boolean wouldChangeBy(int hash) {
            return rankOf(hash) > rankIn(bucketOf(hash));
        }

        boolean takeHash(int hash) {
            return raise(bucketOf(hash), rankOf(hash));
        }

        private boolean raise(int bucket, int rank) {
            if (!hasBucket(bucket) || rank <= ranks[bucket]) {
                return false;
            }
            ranks[bucket] = rank;
            return true;
        }

        void list(int thing) {
            if (full || isListed(thing)) {
                return;
            }
            if (listLength >= things.length) {
                fillList();
                return;
            }
            things[listLength] = thing;
            listLength++;
        }

        private void fillList() {
            full = true;
            listLength = 0;
        }

        private boolean isListed(int thing) {
            for (int place = 0; place < listLength && place < things.length; place++) {
                if (things[place] == thing) {
                    return true;
                }
            }
            return false;
        }

        boolean hasPlace(int place) {
            return place >= 0 && place < listLength && place < things.length;
        }

        int thingAt(int place) {
            return hasPlace(place) ? things[place] : NONE;
        }

        void takeAll(Sketch other) {
            for (int bucket = 0; bucket < buckets(); bucket++) {
                raise(bucket, other.rankIn(bucket));
            }
            if (other.full) {
                fillList();
            }
            for (int place = 0; place < other.listLength; place++) {
                list(other.thingAt(place));
            }
        }

        void halve() {
            int half = buckets() / 2;
            for (int bucket = 0; bucket < half && bucket < ranks.length; bucket++) {
                int ofLower = rankIn(bucket) == 0 ? 0 : rankIn(bucket) + 1;
                int ofUpper = rankIn(bucket + half) == 0 ? 0 : 1;
                ranks[bucket] = Math.max(ofLower, ofUpper);
            }
            for (int bucket = half; bucket < ranks.length; bucket++) {
                ranks[bucket] = 0;
            }
            bits--;
        }

        void startAgain(int newBits) {
            bits = newBits;
            Arrays.fill(ranks, 0);
            listLength = 0;
            full = false;
        }

        void copyFrom(Sketch other) {
            bits = other.bits;
            System.arraycopy(other.ranks, 0, ranks, 0, ranks.length);
            System.arraycopy(other.things, 0, things, 0, things.length);
            listLength = other.listLength;
            full = other.full;
        }

        int emptyBuckets() {
            return buckets() - filledBuckets();
        }

        int filledBuckets() {
            int filled = 0;
            for (int bucket = 0; bucket < buckets(); bucket++) {
                if (rankIn(bucket) > 0) {
                    filled++;
                }
            }
            return filled;
        }

        int greatestRank() {
            int greatest = 0;
            for (int bucket = 0; bucket < buckets(); bucket++) {
                greatest = Math.max(greatest, rankIn(bucket));
            }
            return greatest;
        }

        int rankSum() {
            int sum = 0;
            for (int bucket = 0; bucket < buckets(); bucket++) {
                sum += 65536 >> rankIn(bucket);
            }
            return sum;
        }

        int rawEstimate() {
            long divisor = 10L * rankSum();
            if (divisor <= 0) {
                return 0;
            }
            long buckets = buckets();
            return (int) (buckets * buckets * 65536 * 7 / divisor);
        }

        int estimate() {
            int raw = rawEstimate();
            int empty = emptyBuckets();
            if (empty > 0 && raw <= 5 * buckets() / 2) {
                return estimateByEmpty(empty);
            }
            return raw;
        }

        private int estimateByEmpty(int empty) {
            int sum = 0;
            for (int k = Math.max(empty, 0) + 1; k <= buckets(); k++) {
                sum += buckets() / k;
            }
            return sum;
        }

        int toldError() {
            long divisor = 100L * rootOfBuckets();
            if (divisor <= 0) {
                return 0;
            }
            return (int) (estimate() * 104L / divisor);
        }

        private int rootOfBuckets() {
            int root = 0;
            for (int next = 1; next * next <= buckets() && next <= MOST_BUCKETS; next++) {
                root = next;
            }
            return root;
        }

        long bucketsWithRank(int rank) {
            long set = 0;
            for (int bucket = 0; bucket < buckets(); bucket++) {
                if (rankIn(bucket) == rank) {
                    set |= 1L << bucket;
                }
            }
            return set;
        }

        int sameBuckets(Sketch other) {
            int same = 0;
            for (int bucket = 0; bucket < buckets(); bucket++) {
                if (rankIn(bucket) == other.rankIn(bucket)) {
                    same++;
                }
            }
            return same;
        }
    }

    /** All that undo and the slots bring back. */
    private static final class State {
        private int salt = FIRST_SALT;
        private final Sketch[] sketches = new Sketch[SKETCHES];

        State() {
            for (int number = 0; number < SKETCHES; number++) {
                sketches[number] = new Sketch();
            }
        }

        /** The sketch with a number, or null if there is none. */
        Sketch sketchAt(int number) {
            return number >= 0 && number < sketches.length ? sketches[number] : null;
        }

        void changeSalt(int newSalt) {
            salt = newSalt;
            for (Sketch sketch : sketches) {
                sketch.startAgain(sketch.bits);
            }
        }

        void copyFrom(State other) {
            salt = other.salt;
            for (int number = 0; number < SKETCHES; number++) {
                sketches[number].copyFrom(other.sketches[number]);
            }
        }

        int filledSketches() {
            int filled = 0;
            for (Sketch sketch : sketches) {
                if (sketch.filledBuckets() > 0) {
                    filled++;
                }
            }
            return filled;
        }

        int filledBuckets() {
            int filled = 0;
            for (Sketch sketch : sketches) {
                filled += sketch.filledBuckets();
            }
            return filled;
        }

        int fullLists() {
            int lists = 0;
            for (Sketch sketch : sketches) {
                if (sketch.full) {
                    lists++;
                }
            }
            return lists;
        }
    }

    /** The latest states, in a ring that is made once and used again. */
    private static final class History {
        private final State[] ring = new State[HISTORY_LIMIT];
        private int oldest = 0;
        private int size = 0;

        History() {
            for (int place = 0; place < HISTORY_LIMIT; place++) {
                ring[place] = new State();
            }
        }

        void record(State state) {
            if (size == HISTORY_LIMIT) {
                oldest = (oldest + 1) % HISTORY_LIMIT;
                size--;
            }
            ring[Math.floorMod(oldest + size, HISTORY_LIMIT)].copyFrom(state);
            size++;
        }

        void takeBack(State state) {
            if (size <= 0) {
                return;
            }
            size--;
            state.copyFrom(ring[Math.floorMod(oldest + size, HISTORY_LIMIT)]);
        }
    }

    /** The text that put() appends to, and a reading of its orders from left to right. */
    private static final class Pad {
        private final char[] signs = new char[PAD_LIMIT];
        private int length = 0;
        // Where the reading stands; where it could not go on, that is the fault.
        private int at = 0;
        // The order that was read last.
        private int sketch = 0;
        private int verb = '!';
        private final int[] numbers = new int[PAD_LIMIT];
        private int many = 0;

        void append(char sign) {
            if (length < signs.length) {
                signs[length] = sign;
                length++;
            }
        }

        void clear() {
            length = 0;
        }

        void goToStart() {
            at = 0;
        }

        /** The index of the fault, or NONE. */
        int faultPlace() {
            goToStart();
            for (int orders = 0; orders < PAD_LIMIT; orders++) {
                if (!readOrder()) {
                    return at;
                }
                if (!accept(';')) {
                    return at == length ? NONE : at;
                }
            }
            return at;
        }

        boolean readOrder() {
            many = 0;
            if (!standsAtSketch()) {
                return false;
            }
            sketch = digit();
            at++;
            verb = sign();
            switch (verb) {
                case ':':
                    at++;
                    return readThings();
                case '&':
                    at++;
                    return readOther();
                case '*':
                    at++;
                    return readNumber() && accept('+') && readNumber();
                case '!':
                case '/':
                    at++;
                    return true;
                default:
                    return false;
            }
        }

        boolean accept(char wanted) {
            if (sign() != wanted) {
                return false;
            }
            at++;
            return true;
        }

        private boolean readThings() {
            for (int things = 0; things < PAD_LIMIT; things++) {
                if (!readNumber()) {
                    return false;
                }
                if (!accept(',')) {
                    return true;
                }
            }
            return false;
        }

        private boolean readOther() {
            if (!standsAtSketch()) {
                return false;
            }
            keepNumber(digit());
            at++;
            return true;
        }

        private boolean standsAtSketch() {
            int digit = digit();
            return digit >= 0 && digit < SKETCHES;
        }

        /** Reads the longest number that can stand here; a digit too much is left for the next reading to refuse. */
        private boolean readNumber() {
            int value = digit();
            if (value < 0) {
                return false;
            }
            at++;
            for (int digits = 1; digits < PAD_LIMIT && value > 0 && digit() >= 0; digits++) {
                int longer = value * 10 + digit();
                if (longer >= THINGS) {
                    break;
                }
                value = longer;
                at++;
            }
            keepNumber(value);
            return true;
        }

        /** The digit where the reading stands, or -1 if there is none. */
        private int digit() {
            char sign = sign();
            return sign >= '0' && sign <= '9' ? sign - '0' : -1;
        }

        /** The sign where the reading stands; at the end (char) 0, which no pad has. */
        private char sign() {
            return at >= 0 && at < length && at < signs.length ? signs[at] : (char) 0;
        }

        private void keepNumber(int number) {
            if (many < numbers.length) {
                numbers[many] = number;
                many++;
            }
        }

        int numberAt(int place) {
            return place >= 0 && place < many && place < numbers.length ? numbers[place] : 0;
        }
    }
}
