import java.util.function.ToLongFunction;

/** The edges that the document's part "Terms" names, but for its texts: a test for each sentence that names one. */
final class BoundsOfTermsTest {
    private static final int LEAST = Integer.MIN_VALUE, GREATEST = Integer.MAX_VALUE;

    public static void main(String[] args) {
        at512Calls();
        firstErrorThatApplies();
        noneOnlyWithoutErrors();
        numberedFromZero();
        setsAreBitMasks();
        thingsAre0To99999();
        hashesAreLeftOver();
        hashesOfGreatProducts();
        saltsAre0To65535();
        sixSketches();
        bitsAre2To6();
        bucketIsLeftOver();
        rankIsOneMoreThanLowestZeros();
        rankOfNothingLeft();
        ranksAre0AtFirst();
        greaterOneOfBothRanks();
        sumOfRanks();
        atMost5MOver2();
        emptyOnesAbove0();
        sumFromEmptyOnesOn();
        rootOfBuckets();
        listsHave40();
        listsStayFull();
        listsUntilEmptied();
        joinedRanks();
        joinedListsHave40();
        joinedWithFullOnes();
        Due.end();
    }

    static void at512Calls() {
        Due.sentence("An object is used for at most 512 calls");
        JoinedSketches x = new JoinedSketches();
        for (int call = 1; call < 511; call++) {
            x.add(call % 6, call);
        }
        Due.is("call 511, thing(0, 510, 3)", x.thing(0, 510, 3), 0);
        Due.is("call 512, undo()", x.undo(), 5);
    }

    static void refused(String call, ToLongFunction<JoinedSketches> asked, long due) {
        Due.error(call, Due::furnished, asked, due);
    }

    static void firstErrorThatApplies() {
        Due.sentence("it names its errors in the order in which they are checked, and the first one that applies is "
            + "returned");
        for (int none : Due.NO_SKETCHES) {
            for (int bad : new int[] {-1, 100000, LEAST, GREATEST}) {
                String of = "(" + none + ", " + bad;
                refused("bits" + of + ")", x -> x.bits(none, bad), Due.NO_SUCH);
                refused("add" + of + ")", x -> x.add(none, bad), Due.NO_SUCH);
                refused("addRange" + of + ", 1)", x -> x.addRange(none, bad, 1), Due.NO_SUCH);
                refused("addRange(" + none + ", 1, " + bad + ")", x -> x.addRange(none, 1, bad), Due.NO_SUCH);
                refused("thing" + of + ", 0)", x -> x.thing(none, bad, 0), Due.NO_SUCH);
                refused("thing(" + none + ", 1, " + bad + ")", x -> x.thing(none, 1, bad), Due.NO_SUCH);
                refused("ofSketch" + of + ")", x -> x.ofSketch(none, bad), Due.NO_SUCH);
                refused("withRank" + of + ")", x -> x.withRank(none, bad), -1);
                refused("nextNew" + of + ")", x -> x.nextNew(none, bad), Due.NO_SUCH);
            }
            for (int same = 0; same < 3; same++) {
                int other = same == 0 ? none : same;
                String of = "(" + none + ", " + other + ")";
                refused("join" + of, x -> x.join(none, other), Due.NO_SUCH);
                refused("together" + of, x -> x.together(none, other), Due.NO_SUCH);
                refused("alike" + of, x -> x.alike(none, other), Due.NO_SUCH);
            }
        }
        Due.error("put() of a bad character into a full pad", () -> Due.with("0!;".repeat(26) + "5!"),
            x -> x.put(127), Due.BAD_VALUE);
    }

    static void noneOnlyWithoutErrors() {
        Due.sentence("NONE (-6) is not an error; it is returned only if no error applies");
        JoinedSketches x = Due.ranked(2, 15, 15, 15, 15);
        Due.is("nextNew(0, 99999)", x.nextNew(0, 99999), Due.NONE);
        Due.is("nextNew(0, 100000)", x.nextNew(0, 100000), Due.BAD_VALUE);
        Due.is("nextNew(6, 0)", x.nextNew(6, 0), Due.NO_SUCH);
        x.addRange(0, 0, 41);
        Due.is("ofSketch(0, 8)", x.ofSketch(0, 8), Due.NONE);
        Due.is("ofSketch(0, 9)", x.ofSketch(0, 9), Due.BAD_VALUE);
        Due.is("ofSketch(6, 8)", x.ofSketch(6, 8), Due.NO_SUCH);
        Due.is("fault() of an empty pad", x.fault(), 0);
    }

    static void numberedFromZero() {
        Due.sentence("Everything is numbered from 0");
        JoinedSketches x = new JoinedSketches();
        x.salt(16);
        Due.is("add(0, 0)", x.add(0, 0), 1);
        Due.is("bucket(0, 0)", x.bucket(0, 0), 1);
        Due.is("listed(0, 0)", x.listed(0, 0), 0);
        Due.is("withRank(0, 1)", x.withRank(0, 1), 1);
        Due.is("save(0)", x.save(0), 1);
        Due.is("fault() of 6", Due.with("6").fault(), 0);
        for (int before : new int[] {-1, LEAST}) {
            Due.is("add(" + before + ", 0)", x.add(before, 0), Due.NO_SUCH);
            Due.is("bucket(0, " + before + ")", x.bucket(0, before), Due.NO_SUCH);
            Due.is("listed(0, " + before + ")", x.listed(0, before), Due.NO_SUCH);
            Due.is("save(" + before + ")", x.save(before), Due.BAD_VALUE);
        }
    }

    static void setsAreBitMasks() {
        Due.sentence("Sets of buckets are bit masks (long)");
        for (int bits = 2; bits <= 6; bits++) {
            long all = bits == 6 ? -1L : (1L << (1 << bits)) - 1;
            for (int bucket = 0; bucket < 1 << bits; bucket++) {
                int[] ranks = new int[bucket + 1];
                ranks[bucket] = 2;
                JoinedSketches x = Due.ranked(bits, ranks);
                String of = ", bucket " + bucket + " of " + (1 << bits);
                Due.is("withRank(0, 2)" + of, x.withRank(0, 2), Long.parseUnsignedLong("1" + "0".repeat(bucket), 2));
                Due.is("withRank(0, 0)" + of, x.withRank(0, 0), all - x.withRank(0, 2));
            }
        }
    }

    static void thingsAre0To99999() {
        Due.sentence("A thing is a number, 0 to 99999");
        Due.is("add(0, 0)", new JoinedSketches().add(0, 0), 1);
        Due.is("add(0, 99999)", new JoinedSketches().add(0, 99999), 1);
        for (int bad : new int[] {-1, 100000, LEAST, GREATEST}) {
            Due.error("add(0, " + bad + ")", Due::furnished, x -> x.add(0, bad), Due.BAD_VALUE);
            Due.error("addRange(0, " + bad + ", 1)", Due::furnished, x -> x.addRange(0, bad, 1), Due.BAD_VALUE);
            Due.error("thing(0, " + bad + ", 0)", Due::furnished, x -> x.thing(0, bad, 0), Due.BAD_VALUE);
            Due.error("nextNew(0, " + bad + ")", Due::furnished, x -> x.nextNew(0, bad), Due.BAD_VALUE);
        }
    }

    static void hashIs(int salt, int thing, int due) {
        JoinedSketches x = new JoinedSketches();
        x.salt(salt);
        Due.is("hash of " + thing + " by SALT " + salt, x.thing(0, thing, 0), due);
    }

    static void hashesAreLeftOver() {
        Due.sentence("h is (thing * 40503 + SALT) left over by 65536; the hash is h XOR (h / 256)");
        hashIs(0, 0, 0);
        hashIs(1, 0, 1);
        hashIs(255, 0, 255);
        hashIs(256, 0, 257);
        hashIs(257, 0, 256);
        hashIs(65280, 0, 65535);
        hashIs(65535, 0, 65280);
        // 40503 and these: 65535, 65536, 65537.
        hashIs(25032, 1, 65280);
        hashIs(25033, 1, 0);
        hashIs(25034, 1, 1);
    }

    static void hashesOfGreatProducts() {
        Due.sentence("h is (thing * 40503 + SALT) left over by 65536, above the greatest int");
        // 2147469060 and these: 2147483647, 2147483648, 2147483649.
        hashIs(14587, 53020, 65280);
        hashIs(14588, 53020, 0);
        hashIs(14589, 53020, 1);
        // 2147509563 is 25915 left over: 101 * 256 + 59, and 59 XOR 101 is 94.
        hashIs(0, 53021, 25950);
        // 4050259497 is 3625 left over: 14 * 256 + 41, and 41 XOR 14 is 39; one less with 65535 more.
        hashIs(0, 99999, 3623);
        hashIs(65535, 99999, 3622);
        hashIs(61911, 99999, 0);
    }

    static void saltsAre0To65535() {
        Due.sentence("SALT is 0 to 65535 (12345 at first)");
        JoinedSketches x = new JoinedSketches();
        Due.is("count(0)", x.count(0), 12345);
        Due.is("salt(0)", x.salt(0), 12345);
        Due.is("count(0)", x.count(0), 0);
        Due.is("salt(65535)", x.salt(65535), 0);
        Due.is("count(0)", x.count(0), 65535);
    }

    static void sixSketches() {
        Due.sentence("There are 6 sketches, 0 to 5");
        for (int sketch = 0; sketch < 6; sketch++) {
            JoinedSketches x = new JoinedSketches();
            Due.is("add(" + sketch + ", 7)", x.add(sketch, 7), 1);
            for (int other = 0; other < 6; other++) {
                Due.is("ofSketch(" + other + ", 8)", x.ofSketch(other, 8), other == sketch ? 1 : 0);
            }
        }
        for (int none : Due.NO_SKETCHES) {
            String of = "(" + none;
            refused("bits" + of + ", 4)", x -> x.bits(none, 4), Due.NO_SUCH);
            refused("add" + of + ", 7)", x -> x.add(none, 7), Due.NO_SUCH);
            refused("addRange" + of + ", 7, 1)", x -> x.addRange(none, 7, 1), Due.NO_SUCH);
            refused("fold" + of + ")", x -> x.fold(none), Due.NO_SUCH);
            refused("empty" + of + ")", x -> x.empty(none), Due.NO_SUCH);
            refused("thing" + of + ", 7, 0)", x -> x.thing(none, 7, 0), Due.NO_SUCH);
            refused("bucket" + of + ", 0)", x -> x.bucket(none, 0), Due.NO_SUCH);
            refused("ofSketch" + of + ", 0)", x -> x.ofSketch(none, 0), Due.NO_SUCH);
            refused("withRank" + of + ", 0)", x -> x.withRank(none, 0), -1);
            refused("listed" + of + ", 0)", x -> x.listed(none, 0), Due.NO_SUCH);
            refused("off" + of + ")", x -> x.off(none), Due.NO_SUCH);
            refused("nextNew" + of + ", 0)", x -> x.nextNew(none, 0), Due.NO_SUCH);
            refused("bestSalt" + of + ")", x -> x.bestSalt(none), Due.NO_SUCH);
        }
    }

    static void bitsAre2To6() {
        Due.sentence("A sketch has 2 to the power of BITS buckets, numbered from 0; BITS is 2 to 6 (4 at first)");
        JoinedSketches x = new JoinedSketches();
        for (int sketch = 0; sketch < 6; sketch++) {
            Due.is("bits(" + sketch + ", 6)", x.bits(sketch, 6), 4);
        }
        int[] buckets = {0, 0, 4, 8, 16, 32, 64};
        for (int bits = 2; bits <= 6; bits++) {
            x.bits(0, bits);
            Due.is("ofSketch(0, 1) by BITS " + bits, x.ofSketch(0, 1), buckets[bits]);
            Due.is("the first bucket", x.bucket(0, 0), 0);
            Due.is("the last bucket", x.bucket(0, buckets[bits] - 1), 0);
            Due.is("the one before the first", x.bucket(0, -1), Due.NO_SUCH);
            Due.is("the one behind the last", x.bucket(0, buckets[bits]), Due.NO_SUCH);
        }
    }

    /** Bucket and rank of a thing whose hash is this one. */
    static void ofHash(int hash, int bits, int bucket, int rank) {
        JoinedSketches x = new JoinedSketches();
        x.salt(hash ^ (hash / 256));
        x.bits(0, bits);
        Due.is("the hash", x.thing(0, 0, 0), hash);
        Due.is("bucket of a hash of " + hash + " by BITS " + bits, x.thing(0, 0, 1), bucket);
        Due.is("rank of a hash of " + hash + " by BITS " + bits, x.thing(0, 0, 2), rank);
        Due.is("add() of it", x.add(0, 0), 1);
        Due.is("the bucket then", x.bucket(0, bucket), rank);
    }

    static void bucketIsLeftOver() {
        Due.sentence("The bucket of a thing is its hash left over by the number of buckets");
        for (int bits = 2; bits <= 6; bits++) {
            int buckets = 1 << bits;
            ofHash(buckets, bits, 0, 1);
            ofHash(2 * buckets - 1, bits, buckets - 1, 1);
            ofHash(65535, bits, buckets - 1, 1);
        }
    }

    static void rankIsOneMoreThanLowestZeros() {
        Due.sentence("The rank of a thing is 1 more than how many of the lowest bits of the left part are 0 side by "
            + "side");
        int[] greatest = {0, 0, 14, 13, 12, 11, 10};
        for (int bits = 2; bits <= 6; bits++) {
            int buckets = 1 << bits;
            ofHash(2 * buckets, bits, 0, 2);
            ofHash(4 * buckets + 1, bits, 1, 3);
            ofHash(10 * buckets, bits, 0, 2);
            // Of the left part only the highest bit is 1; then all but the highest.
            ofHash(32768, bits, 0, greatest[bits]);
            ofHash(32767, bits, buckets - 1, 1);
            ofHash(16384, bits, 0, greatest[bits] - 1);
        }
    }

    static void rankOfNothingLeft() {
        Due.sentence("(17 less BITS, if it is 0)");
        int[] due = {0, 0, 15, 14, 13, 12, 11};
        for (int bits = 2; bits <= 6; bits++) {
            ofHash(0, bits, 0, due[bits]);
            ofHash((1 << bits) - 1, bits, (1 << bits) - 1, due[bits]);
        }
    }

    static void ranksAre0AtFirst() {
        Due.sentence("A bucket has a rank, 0 at first (it is empty then)");
        JoinedSketches x = new JoinedSketches();
        for (int sketch = 0; sketch < 6; sketch++) {
            for (int bucket = 0; bucket < 16; bucket++) {
                Due.is("bucket(" + sketch + ", " + bucket + ")", x.bucket(sketch, bucket), 0);
            }
            Due.is("empty buckets of " + sketch, x.ofSketch(sketch, 2), 16);
        }
    }

    static void greaterOneOfBothRanks() {
        Due.sentence("its bucket has the greater one of its rank and that of the thing then");
        int one = Due.thingFor(Due.FIRST_SALT, 4, 3, 4, 0);
        int same = Due.thingFor(Due.FIRST_SALT, 4, 3, 4, one + 1);
        int less = Due.thingFor(Due.FIRST_SALT, 4, 3, 3, 0);
        int more = Due.thingFor(Due.FIRST_SALT, 4, 3, 5, 0);
        int[][] calls = {{one, 1, 4}, {same, 0, 4}, {less, 0, 4}, {more, 1, 5}, {one, 0, 5}};
        JoinedSketches x = new JoinedSketches();
        for (int[] call : calls) {
            Due.is("thing(0, " + call[0] + ", 3)", x.thing(0, call[0], 3), call[1]);
            Due.is("add(0, " + call[0] + ")", x.add(0, call[0]), call[1]);
            Due.is("bucket(0, 3)", x.bucket(0, 3), call[2]);
        }
    }

    static void sumOfRanks() {
        Due.sentence("let S be the sum over all buckets of 65536 / (2 to the power of the bucket's rank)");
        int[] ofEmpty = {0, 0, 262144, 524288, 1048576, 2097152, 4194304};
        int[] ofGreatest = {0, 0, 8, 32, 128, 512, 2048};
        int[] rawOfGreatest = {0, 0, 91750, 91750, 91750, 91750, 91750};
        for (int bits = 2; bits <= 6; bits++) {
            int buckets = 1 << bits;
            Due.is("S of an empty one by BITS " + bits, Due.ranked(bits).ofSketch(0, 4), ofEmpty[bits]);
            JoinedSketches x = Due.ranked(bits, Due.ranks(buckets, 17 - bits));
            Due.is("S of the greatest ranks by BITS " + bits, x.ofSketch(0, 4), ofGreatest[bits]);
            Due.is("their raw estimate", x.ofSketch(0, 5), rawOfGreatest[bits]);
            Due.is("their estimate", x.ofSketch(0, 6), rawOfGreatest[bits]);
        }
        Due.is("S of 1, 0, 15, 2", Due.ranked(2, 1, 0, 15, 2).ofSketch(0, 4), 32768 + 65536 + 2 + 16384);
    }

    static void estimateIs(int raw, int estimate, int bits, int... pairs) {
        JoinedSketches x = Due.ranked(bits, Due.ranks(pairs));
        Due.is("raw estimate by BITS " + bits, x.ofSketch(0, 5), raw);
        Due.is("estimate by BITS " + bits, x.ofSketch(0, 6), estimate);
    }

    static void atMost5MOver2() {
        Due.sentence("If it is at most 5 * m / 2, and E is above 0, the estimate is the sum of m / k, each rounded "
            + "down");
        estimateIs(10, 4, 2, 2, 15, 1, 5);
        estimateIs(11, 11, 2, 2, 15, 1, 9);
        estimateIs(20, 8, 3, 6, 5);
        estimateIs(21, 21, 3, 6, 6);
        estimateIs(40, 17, 4, 12, 5);
        estimateIs(41, 41, 4, 8, 5, 4, 6);
        estimateIs(80, 34, 5, 20, 5, 4, 4);
        estimateIs(81, 81, 5, 24, 5);
        estimateIs(160, 66, 6, 40, 6, 7, 5);
        estimateIs(161, 161, 6, 47, 6);
    }

    static void emptyOnesAbove0() {
        Due.sentence("and E is above 0; otherwise it is the raw one");
        // The raw one is at most 5 * m / 2 everywhere here.
        estimateIs(5, 5, 2, 4, 1);
        estimateIs(5, 4, 2, 1, 1, 1, 2, 1, 3, 1, 0);
        estimateIs(44, 44, 5, 32, 1);
        estimateIs(43, 87, 5, 31, 1, 1, 0);
        estimateIs(89, 89, 6, 64, 1);
        estimateIs(88, 216, 6, 63, 1, 1, 0);
    }

    static void sumFromEmptyOnesOn() {
        Due.sentence("the sum of m / k, each rounded down, over k from E + 1 to m");
        // Over all k it is the number of divisors of all numbers up to m: 8, 20, 50, 119, 280; less m for k = 1.
        int[] ofOneEmpty = {0, 0, 4, 12, 34, 87, 216};
        for (int bits = 2; bits <= 6; bits++) {
            int buckets = 1 << bits;
            Due.is("estimate, all empty", Due.ranked(bits).ofSketch(0, 6), 0);
            Due.is("estimate, all but one empty", Due.ranked(bits, 1).ofSketch(0, 6), 1);
            Due.is("estimate, one empty", Due.ranked(bits, Due.ranks(buckets - 1, 1)).ofSketch(0, 6),
                ofOneEmpty[bits]);
            int half = buckets / 2;
            Due.is("estimate, half empty", Due.ranked(bits, Due.ranks(half, 1)).ofSketch(0, 6), half);
            Due.is("estimate, one more empty than half", Due.ranked(bits, Due.ranks(half - 1, 1)).ofSketch(0, 6),
                half - 1);
            Due.is("estimate, one less empty than half", Due.ranked(bits, Due.ranks(half + 1, 1)).ofSketch(0, 6),
                half + 2);
        }
    }

    static void rootOfBuckets() {
        Due.sentence("the estimate * 104 / (100 * R), R being the greatest whole number whose square is at most m");
        // 91750 * 104 by 200, 200, 400, 500, 800.
        int[] ofGreatest = {0, 0, 47710, 47710, 23855, 19084, 11927};
        for (int bits = 2; bits <= 6; bits++) {
            JoinedSketches x = Due.ranked(bits, Due.ranks(1 << bits, 17 - bits));
            Due.is("error that is told by BITS " + bits, x.ofSketch(0, 7), ofGreatest[bits]);
            Due.is("of an empty one", Due.ranked(bits).ofSketch(0, 7), 0);
        }
        // 1 * 104 by 200; 2 * 104 by 200.
        Due.is("error of an estimate of 1", Due.ranked(2, 1).ofSketch(0, 7), 0);
        Due.is("error of an estimate of 2", Due.ranked(2, 1, 1).ofSketch(0, 7), 1);
        // 8 * 104 is 832, by 800; 7 * 104 is 728.
        Due.is("error of an estimate of 8", Due.ranked(6, Due.ranks(8, 1)).ofSketch(0, 7), 1);
        Due.is("error of an estimate of 7", Due.ranked(6, Due.ranks(7, 1)).ofSketch(0, 7), 0);
    }

    static void listIs(String of, JoinedSketches x, int sketch, int... due) {
        Due.is(of + ": length of the list", x.ofSketch(sketch, 8), due.length);
        for (int place = 0; place < due.length; place++) {
            Due.is(of + ": listed(" + sketch + ", " + place + ")", x.listed(sketch, place), due[place]);
        }
        Due.is(of + ": one place more", x.listed(sketch, due.length), Due.NO_SUCH);
    }

    static void isFull(String of, JoinedSketches x, int sketch) {
        Due.is(of + ": length of the list", x.ofSketch(sketch, 8), Due.NONE);
        Due.is(of + ": its first place", x.listed(sketch, 0), Due.NO_SUCH);
        Due.is(of + ": its place 39", x.listed(sketch, 39), Due.NO_SUCH);
    }

    static int[] upTo(int many) {
        int[] things = new int[many];
        for (int thing = 0; thing < many; thing++) {
            things[thing] = thing;
        }
        return things;
    }

    static void listsHave40() {
        Due.sentence("a list beside it of the unlike things that came into it, as long as they are at most 40; by "
            + "one more it is full, and empty of things");
        listIs("none", Due.ofMany(0), 0);
        listIs("39", Due.ofMany(39), 0, upTo(39));
        JoinedSketches x = Due.ofMany(40);
        listIs("40", x, 0, upTo(40));
        x.add(0, 39);
        x.add(0, 0);
        x.addRange(0, 0, 40);
        listIs("40, and some of them again", x, 0, upTo(40));
        isFull("41 at once", Due.ofMany(41), 0);
        isFull("999 at once", Due.ofMany(999), 0);
        x.add(0, 99999);
        isFull("40 and 1", x, 0);
        Due.is("another list", x.ofSketch(1, 8), 0);
        JoinedSketches y = Due.ofMany(39);
        y.addRange(0, 38, 2);
        listIs("39 and 2, one of them again", y, 0, upTo(40));
        y.addRange(0, 39, 2);
        isFull("40 and 2, one of them again", y, 0);
    }

    static void listsStayFull() {
        Due.sentence("by one more it is full, for good");
        JoinedSketches x = Due.ofMany(41);
        x.add(0, 0);
        isFull("then a thing that it had", x, 0);
        x.add(0, 5000);
        isFull("then a thing that it had not", x, 0);
        x.join(0, 1);
        isFull("then joined with an empty one", x, 0);
        x.fold(0);
        isFull("then folded", x, 0);
        x.save(0);
        x.restore(0);
        isFull("then saved and restored", x, 0);
        x.empty(1);
        isFull("then another one emptied", x, 0);
    }

    static void listsUntilEmptied() {
        Due.sentence("(until the sketch is emptied)");
        JoinedSketches x = Due.ofMany(41);
        x.empty(0);
        listIs("empty()", x, 0);
        x.addRange(0, 3, 2);
        listIs("empty(), and two things", x, 0, 3, 4);
        JoinedSketches y = Due.ofMany(41);
        y.bits(0, 4);
        listIs("bits()", y, 0);
        JoinedSketches z = Due.ofMany(41);
        z.salt(12345);
        listIs("salt()", z, 0);
        JoinedSketches text = Due.put(Due.ofMany(41), "0!;0:8");
        text.carryOut();
        listIs("\"0!;0:8\"", text, 0, 8);
        JoinedSketches undone = Due.ofMany(40);
        undone.add(0, 40);
        undone.undo();
        listIs("undo() of what filled it", undone, 0, upTo(40));
    }

    static void joinedRanks() {
        Due.sentence("each bucket has the greater one of both ranks then");
        int[][] cases = {{0, 0, 0}, {0, 1, 1}, {1, 0, 1}, {3, 3, 3}, {3, 4, 4}, {4, 3, 4}, {15, 0, 15}, {0, 15, 15},
            {14, 15, 15}, {15, 14, 15}, {15, 15, 15}};
        for (int[] ranks : cases) {
            for (int bucket = 0; bucket < 4; bucket++) {
                JoinedSketches x = new JoinedSketches();
                x.bits(0, 2);
                x.bits(1, 2);
                int[] at = new int[4];
                at[bucket] = ranks[0];
                Due.fill(x, 0, at);
                at[bucket] = ranks[1];
                Due.fill(x, 1, at);
                x.join(0, 1);
                Due.is("ranks " + ranks[0] + " and " + ranks[1], x.bucket(0, bucket), ranks[2]);
                Due.is("the other one's rank", x.bucket(1, bucket), ranks[1]);
            }
        }
    }

    /** Two sketches with things side by side, joined. */
    static JoinedSketches joined(int many, int otherFrom, int otherMany) {
        JoinedSketches x = Due.ofMany(many);
        if (otherMany > 0) {
            x.addRange(1, otherFrom, otherMany);
        }
        x.join(0, 1);
        return x;
    }

    static void joinedListsHave40() {
        Due.sentence("the things of the other one's list come behind its own (those that it has not yet); if there "
            + "would be more than 40, it is full");
        listIs("none and none", joined(0, 0, 0), 0);
        listIs("none and 40", joined(0, 0, 40), 0, upTo(40));
        listIs("40 and none", joined(40, 0, 0), 0, upTo(40));
        listIs("39 and 1", joined(39, 39, 1), 0, upTo(40));
        listIs("1 and 39", joined(1, 1, 39), 0, upTo(40));
        listIs("20 and 20", joined(20, 20, 20), 0, upTo(40));
        listIs("40 and the same 40", joined(40, 0, 40), 0, upTo(40));
        listIs("39 and 40, 39 of them the same", joined(39, 0, 40), 0, upTo(40));
        isFull("40 and 1", joined(40, 40, 1), 0);
        isFull("1 and 40", joined(1, 1, 40), 0);
        isFull("39 and 2", joined(39, 39, 2), 0);
        isFull("40 and 40, 39 of them the same", joined(40, 1, 40), 0);
        JoinedSketches x = joined(40, 40, 1);
        listIs("the other one's", x, 1, 40);
    }

    static void joinedWithFullOnes() {
        Due.sentence("if the other one's list is full, it is full");
        isFull("none and a full one", joined(0, 0, 41), 0);
        isFull("1 and a full one", joined(1, 0, 41), 0);
        isFull("40 and a full one", joined(40, 0, 41), 0);
        isFull("a full one and none", joined(41, 0, 0), 0);
        isFull("a full one and 1", joined(41, 0, 1), 0);
        isFull("two full ones", joined(41, 0, 41), 0);
        isFull("the other one, which stays", joined(1, 0, 41), 1);
    }
}
