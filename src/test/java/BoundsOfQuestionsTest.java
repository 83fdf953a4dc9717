/** The edges that promises 15 to 19 name: a test for each sentence that names one. */
final class BoundsOfQuestionsTest {
    private static final int LEAST = Integer.MIN_VALUE, GREATEST = Integer.MAX_VALUE;

    public static void main(String[] args) {
        togetherErrorsAsForJoin();
        togetherWithItself();
        togetherOfEmptyAndFullOnes();
        alikeErrorsAsForJoin();
        alikeWithItself();
        shareOfBuckets();
        offLessAnd100000();
        offOfFullLists();
        nextFromIs0To99999();
        nextFromOneOn();
        nextThatThereIsNone();
        bestSaltIs0To255();
        bestSaltOfSeveral();
        bestSaltIsNearest();
        bestSaltOfFullLists();
        Due.end();
    }

    /** What sketch 0 and 1 of two objects answer beside join(0, 1), for each pair of BITS. */
    static void errorsAsForJoin(String name, boolean isTogether) {
        for (int none : Due.NO_SKETCHES) {
            for (int sketch : new int[] {0, 5, none}) {
                error(name, isTogether, 4, 4, none, sketch, Due.NO_SUCH);
                error(name, isTogether, 2, 3, sketch, none, Due.NO_SUCH);
            }
        }
        for (int bits = 2; bits <= 6; bits++) {
            for (int other = 2; other <= 6; other++) {
                if (bits != other) {
                    error(name, isTogether, bits, other, 0, 1, Due.NOT_POSSIBLE);
                }
            }
        }
    }

    static void error(String name, boolean isTogether, int bits, int otherBits, int one, int other, int due) {
        Due.error(name + "(" + one + ", " + other + ") by BITS " + bits + " and " + otherBits,
            () -> BoundsOfChangesTest.ofBits(bits, otherBits),
            x -> isTogether ? x.together(one, other) : x.alike(one, other), due);
        Due.is("join() of these", BoundsOfChangesTest.ofBits(bits, otherBits).join(one, other), due);
    }

    static void togetherErrorsAsForJoin() {
        Due.sentence("15: errors as for join()");
        errorsAsForJoin("together", true);
    }

    static void togetherWithItself() {
        Due.sentence("15: (of a sketch with itself: its own estimate)");
        for (int many : new int[] {0, 1, 40, 41, 999}) {
            int estimate = Due.ofMany(many).ofSketch(0, 6);
            Due.question("together(0, 0) of " + many, () -> Due.ofMany(many), x -> x.together(0, 0), estimate);
        }
        for (int sketch = 0; sketch < 6; sketch++) {
            int same = sketch;
            int estimate = Due.furnished().ofSketch(sketch, 6);
            Due.question("together(" + same + ", " + same + ")", Due::furnished, x -> x.together(same, same), estimate);
        }
    }

    static JoinedSketches two(int filled, int otherFilled, int rank) {
        JoinedSketches x = Due.ranked(2, Due.ranks(filled, rank));
        x.bits(1, 2);
        Due.fill(x, 1, Due.ranks(otherFilled, rank));
        return x;
    }

    static void togetherOfEmptyAndFullOnes() {
        Due.sentence("15: Returns the estimate of what two sketches have together, if one was joined with the other");
        int[][] cases = {{0, 0, 1, 0}, {0, 1, 1, 1}, {1, 0, 1, 1}, {4, 0, 1, 5}, {4, 4, 1, 5}, {0, 4, 15, 91750},
            {4, 4, 15, 91750}};
        for (int[] of : cases) {
            Due.question("together(0, 1) of " + of[0] + " and " + of[1] + " buckets of rank " + of[2],
                () -> two(of[0], of[1], of[2]), x -> x.together(0, 1), of[3]);
            Due.is("join(0, 1)", two(of[0], of[1], of[2]).join(0, 1), of[3]);
        }
        JoinedSketches full = Due.ofMany(41);
        full.addRange(1, 41, 40);
        int together = full.together(0, 1);
        Due.is("together(1, 0)", full.together(1, 0), together);
        Due.is("join(1, 0)", full.join(1, 0), together);
    }

    static void alikeErrorsAsForJoin() {
        Due.sentence("16: errors as for join()");
        errorsAsForJoin("alike", false);
    }

    static void alikeWithItself() {
        Due.sentence("16: (of a sketch with itself: that of 1.0)");
        for (int sketch = 0; sketch < 6; sketch++) {
            int same = sketch;
            Due.question("alike(" + same + ", " + same + ")", Due::furnished, x -> x.alike(same, same), 0x3F800000);
        }
    }

    static void shareOfBuckets() {
        Due.sentence("16: the bits, as Float.floatToIntBits tells them, of how many these are, as a float, divided "
            + "by all, as a float");
        for (int bits = 2; bits <= 6; bits++) {
            int all = 1 << bits;
            for (int unlike = 0; unlike <= all; unlike++) {
                JoinedSketches x = Due.ranked(bits, Due.ranks(unlike, 1));
                x.bits(1, bits);
                Due.is("alike(0, 1), " + unlike + " of " + all + " unlike", x.alike(0, 1),
                    Float.floatToIntBits((float) (all - unlike) / (float) all));
            }
        }
        Due.is("alike(0, 1) of all unlike", two(4, 0, 1).alike(0, 1), 0);
        Due.is("alike(0, 1) of 1 of 4", two(3, 0, 1).alike(0, 1), 0x3E800000);
        Due.is("alike(0, 1) of 3 of 4", two(4, 3, 15).alike(0, 1), 0x3F400000);
        Due.is("alike(0, 1) of 4 of 4", two(4, 4, 15).alike(0, 1), 0x3F800000);
    }

    static void offLessAnd100000() {
        Due.sentence("17: Returns the estimate less those, and 100000");
        Due.question("off(0) of an empty one", JoinedSketches::new, x -> x.off(0), 100000);
        // One bucket of rank 15, and 3 empty ones: an estimate of 1, and one thing.
        Due.question("off(0), one thing", () -> Due.ranked(2, 15), x -> x.off(0), 100000);
        Due.question("off(0), the greatest estimate", () -> Due.ranked(2, 15, 15, 15, 15), x -> x.off(0),
            100000 + 91750 - 4);
        Due.question("off(0) of the least estimate", BoundsOfQuestionsTest::fortyOfOneBucket, x -> x.off(0),
            100000 + 1 - 40);
    }

    /** 40 things of bucket 0 of 4, all of rank 1, so that the estimate is 1. */
    static JoinedSketches fortyOfOneBucket() {
        JoinedSketches x = Due.ranked(2);
        int thing = -1;
        for (int many = 0; many < 40; many++) {
            thing = Due.thingFor(Due.FIRST_SALT, 2, 0, 1, thing + 1);
            x.add(0, thing);
        }
        return x;
    }

    static void offOfFullLists() {
        Due.sentence("17: NO_SUCH if there is no such sketch; NOT_POSSIBLE if the list is full");
        int estimate = Due.ofMany(40).ofSketch(0, 6);
        Due.question("off(0) of 40", () -> Due.ofMany(40), x -> x.off(0), 100000 + estimate - 40);
        Due.error("off(0) of 41", () -> Due.ofMany(41), x -> x.off(0), Due.NOT_POSSIBLE);
        Due.question("off(1) beside it", () -> Due.ofMany(41), x -> x.off(1), 100000);
        for (int none : Due.NO_SKETCHES) {
            Due.error("off(" + none + ")", () -> Due.ofMany(41), x -> x.off(none), Due.NO_SUCH);
        }
    }

    static void nextFromIs0To99999() {
        Due.sentence("18: from: 0 to 99999; BAD_VALUE if from is out of range");
        Due.question("nextNew(5, 0)", Due::furnished, x -> x.nextNew(5, 0), 0);
        Due.question("nextNew(5, 99999)", Due::furnished, x -> x.nextNew(5, 99999), 99999);
        for (int from : new int[] {-1, 100000, LEAST, GREATEST}) {
            Due.error("nextNew(5, " + from + ")", Due::furnished, x -> x.nextNew(5, from), Due.BAD_VALUE);
            Due.error("nextNew(0, " + from + "), where there is none", () -> Due.ranked(2, 15, 15, 15, 15),
                x -> x.nextNew(0, from), Due.BAD_VALUE);
        }
        for (int none : Due.NO_SKETCHES) {
            for (int from : new int[] {0, -1, 100000}) {
                Due.error("nextNew(" + none + ", " + from + ")", Due::furnished, x -> x.nextNew(none, from),
                    Due.NO_SUCH);
            }
        }
    }

    /** By its SALT the thing has the hash 0, and no other hash has the rank 15 in bucket 0, which has 14 still. */
    static JoinedSketches onlyFor(int thing) {
        JoinedSketches x = new JoinedSketches();
        x.salt(Math.floorMod(-thing * 40503L, 65536));
        x.bits(0, 2);
        Due.fill(x, 0, 14, 15, 15, 15);
        return x;
    }

    static void nextFromOneOn() {
        Due.sentence("18: Finds the least thing, from one on, that would change a rank of a sketch");
        // Only the thing of hash 0 would, and the one that is 65536 more or less.
        int[][] cases = {{0, 0, 0}, {0, 1, 65536}, {0, 65536, 65536}, {0, 65537, Due.NONE}, {99999, 0, 34463},
            {99999, 34463, 34463}, {99999, 34464, 99999}, {99999, 99999, 99999}, {99998, 99999, Due.NONE},
            {99998, 99998, 99998}, {100000, 34464, 34464}, {100000, 34465, Due.NONE},
            {40000, 39999, 40000}, {40000, 40000, 40000}, {40000, 40001, Due.NONE}};
        for (int[] of : cases) {
            Due.question("nextNew(0, " + of[1] + "), thing " + of[0] + " of hash 0", () -> onlyFor(of[0]),
                x -> x.nextNew(0, of[1]), of[2]);
        }
        JoinedSketches x = onlyFor(0);
        Due.is("add() of it", x.add(0, 0), 1);
        Due.is("nextNew(0, 0) then", x.nextNew(0, 0), Due.NONE);
    }

    static void nextThatThereIsNone() {
        Due.sentence("18: NONE if there is none");
        for (int bits = 2; bits <= 6; bits++) {
            int ofBits = bits;
            int[] greatest = Due.ranks(1 << bits, 17 - bits);
            Due.question("nextNew(0, 0) of the greatest ranks", () -> Due.ranked(ofBits, greatest),
                x -> x.nextNew(0, 0), Due.NONE);
            Due.question("nextNew(0, 99999) of the greatest ranks", () -> Due.ranked(ofBits, greatest),
                x -> x.nextNew(0, 99999), Due.NONE);
        }
    }

    static JoinedSketches ofRange(int bits, int from, int many) {
        JoinedSketches x = new JoinedSketches();
        x.bits(0, bits);
        x.addRange(0, from, many);
        return x;
    }

    static void bestSaltIs(int bits, int from, int many, int due) {
        Due.question("bestSalt(0) of " + many + " from " + from + " on by BITS " + bits,
            () -> ofRange(bits, from, many), x -> x.bestSalt(0), due);
    }

    static void bestSaltIs0To255() {
        Due.sentence("19: Finds the SALT, 0 to 255");
        Due.is("distance by 0", QuestionsTest.distance(0, 2, 119, 4), 0);
        bestSaltIs(2, 119, 4, 0);
        Due.is("distance by 1", QuestionsTest.distance(1, 2, 118, 4), 0);
        bestSaltIs(2, 118, 4, 1);
        for (int salt = 0; salt < 255; salt++) {
            Due.is("distance by " + salt + " is above 0", QuestionsTest.distance(salt, 2, 1034, 5) > 0 ? 1 : 0, 1);
        }
        Due.is("distance by 255", QuestionsTest.distance(255, 2, 1034, 5), 0);
        bestSaltIs(2, 1034, 5, 255);
        for (int salt = 0; salt <= 255; salt++) {
            Due.is("distance by " + salt + " is above 0", QuestionsTest.distance(salt, 2, 1155, 5) > 0 ? 1 : 0, 1);
        }
        Due.is("distance by 256", QuestionsTest.distance(256, 2, 1155, 5), 0);
        bestSaltIs(2, 1155, 5, 0);
    }

    static void bestSaltOfSeveral() {
        Due.sentence("19: of several the least one");
        Due.question("bestSalt(0) of an empty one", JoinedSketches::new, x -> x.bestSalt(0), 0);
        bestSaltIs(4, 99999, 1, 0);
        // By the first one the estimate is 1 too great, by the other one 1 too small.
        Due.is("distance by 10", QuestionsTest.distance(10, 2, 0, 5), 1);
        Due.is("distance by 92", QuestionsTest.distance(92, 2, 0, 5), 1);
        bestSaltIs(2, 0, 5, 10);
        // Here it is the other way round.
        Due.is("distance by 0", QuestionsTest.distance(0, 2, 2, 5), 1);
        Due.is("distance by 9", QuestionsTest.distance(9, 2, 2, 5), 1);
        bestSaltIs(2, 2, 5, 0);
    }

    static void bestSaltIsNearest() {
        Due.sentence("19: by which the estimate of a sketch with the things of its list would be nearest to how many "
            + "they are");
        int[][] streams = {{2, 0, 40}, {3, 99979, 21}, {4, 0, 40}, {5, 77777, 40}, {6, 40, 33}};
        for (int[] of : streams) {
            int due = 0;
            int least = QuestionsTest.distance(0, of[0], of[1], of[2]);
            for (int salt = 1; salt <= 255; salt++) {
                int distance = QuestionsTest.distance(salt, of[0], of[1], of[2]);
                due = distance < least ? salt : due;
                least = Math.min(least, distance);
            }
            bestSaltIs(of[0], of[1], of[2], due);
            int best = due;
            JoinedSketches x = new JoinedSketches();
            x.salt(65535);
            x.bits(0, of[0]);
            x.addRange(0, of[1], of[2]);
            Due.is("bestSalt(0) by another SALT", x.bestSalt(0), best);
        }
        JoinedSketches folded = ofRange(6, 0, 40);
        folded.fold(0);
        folded.fold(0);
        Due.is("bestSalt(0), folded to BITS 4", folded.bestSalt(0), 44);
        JoinedSketches joined = Due.ofMany(20);
        joined.addRange(1, 20, 20);
        joined.join(0, 1);
        Due.is("bestSalt(0), joined to 40", joined.bestSalt(0), 44);
    }

    static void bestSaltOfFullLists() {
        Due.sentence("19: NO_SUCH if there is no such sketch; NOT_POSSIBLE if the list is full");
        Due.question("bestSalt(0) of 40", () -> Due.ofMany(40), x -> x.bestSalt(0), 44);
        Due.error("bestSalt(0) of 41", () -> Due.ofMany(41), x -> x.bestSalt(0), Due.NOT_POSSIBLE);
        Due.question("bestSalt(1) beside it", () -> Due.ofMany(41), x -> x.bestSalt(1), 0);
        for (int none : Due.NO_SKETCHES) {
            Due.error("bestSalt(" + none + ")", () -> Due.ofMany(41), x -> x.bestSalt(none), Due.NO_SUCH);
        }
    }
}
