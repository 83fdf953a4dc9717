/** The edges that promises 1 to 8 name: a test for each sentence that names one. */
final class BoundsOfChangesTest {
    private static final int LEAST = Integer.MIN_VALUE, GREATEST = Integer.MAX_VALUE;

    public static void main(String[] args) {
        newSketchesAreEmpty();
        saltIsNot0To65535();
        saltEmptiesAll();
        bitsAreOutOfRange();
        bitsEmptiesTheSketch();
        bitsTellsThePreviousOnes();
        addedThingIsOutOfRange();
        addTells1Or0();
        fromIs0To99999();
        manyIs1To999();
        fromAndManyAtMost100000();
        addRangeTellsHowManyChanged();
        joinNamesNoSketch();
        joinOfTheSame();
        joinOfUnlikeBits();
        joinTellsTheEstimate();
        foldOfBits2();
        foldTakesTheGreaterOne();
        foldKeepsTheList();
        emptyTellsHowMany();
        allAreChanges();
        Due.end();
    }

    static void newSketchesAreEmpty() {
        Due.sentence("1: Creates empty sketches");
        JoinedSketches x = new JoinedSketches();
        Due.is("count(1)", x.count(1), 0);
        Due.is("count(2)", x.count(2), 0);
        for (int sketch = 0; sketch < 6; sketch++) {
            Due.is("empty(" + sketch + ")", x.empty(sketch), 0);
            Due.is("ofSketch(" + sketch + ", 3)", x.ofSketch(sketch, 3), 0);
            Due.is("ofSketch(" + sketch + ", 8)", x.ofSketch(sketch, 8), 0);
        }
    }

    static void saltIsNot0To65535() {
        Due.sentence("2: Returns the previous SALT; BAD_VALUE if salt is not 0 to 65535");
        for (int salt : new int[] {0, 1, 65534, 65535}) {
            Due.change("salt(" + salt + ")", Due::furnished, x -> x.salt(salt), 12345);
            JoinedSketches x = new JoinedSketches();
            x.salt(salt);
            Due.is("count(0)", x.count(0), salt);
            Due.is("salt(5) then", x.salt(5), salt);
        }
        for (int salt : new int[] {-1, 65536, 65536 + 12345, LEAST, GREATEST}) {
            Due.error("salt(" + salt + ")", Due::furnished, x -> x.salt(salt), Due.BAD_VALUE);
        }
    }

    static void saltEmptiesAll() {
        Due.sentence("2: Changes SALT; all sketches are empty then");
        for (int salt : new int[] {0, 12345, 65535}) {
            JoinedSketches x = Due.furnished();
            JoinedSketches y = new JoinedSketches();
            y.salt(salt);
            y.bits(0, 2);
            y.bits(3, 6);
            x.salt(salt);
            Due.is("all after salt(" + salt + ")", Due.contents(x), Due.contents(y));
            x.salt(salt);
            Due.is("all after it again", Due.contents(x), Due.contents(y));
        }
    }

    static void bitsAreOutOfRange() {
        Due.sentence("3: bits: 2 to 6; BAD_VALUE if bits is out of range");
        for (int bits : new int[] {2, 6}) {
            Due.change("bits(0, " + bits + ")", Due::furnished, x -> x.bits(0, bits), 2);
            Due.change("bits(5, " + bits + ")", Due::furnished, x -> x.bits(5, bits), 4);
        }
        for (int bits : new int[] {1, 7, 0, -2, -1, 34, LEAST, GREATEST}) {
            Due.error("bits(0, " + bits + ")", Due::furnished, x -> x.bits(0, bits), Due.BAD_VALUE);
            Due.error("bits(5, " + bits + ")", Due::furnished, x -> x.bits(5, bits), Due.BAD_VALUE);
        }
    }

    static void bitsEmptiesTheSketch() {
        Due.sentence("3: Changes BITS of a sketch, which is empty then");
        for (int bits = 2; bits <= 6; bits++) {
            for (int then = 2; then <= 6; then++) {
                JoinedSketches x = Due.ranked(bits, Due.ranks(1 << bits, 17 - bits));
                String other = Due.sketchText(x, 1);
                x.bits(0, then);
                JoinedSketches y = new JoinedSketches();
                y.bits(0, then);
                Due.is("BITS " + bits + ", then " + then, Due.sketchText(x, 0), Due.sketchText(y, 0));
                Due.is("another sketch", Due.sketchText(x, 1), other);
            }
        }
    }

    static void bitsTellsThePreviousOnes() {
        Due.sentence("3: Returns the previous BITS");
        JoinedSketches x = new JoinedSketches();
        int before = 4;
        for (int bits : new int[] {6, 6, 2, 2, 3, 5, 4}) {
            Due.is("bits(1, " + bits + ")", x.bits(1, bits), before);
            before = bits;
        }
        x.fold(1);
        Due.is("bits(1, 4) after fold(1)", x.bits(1, 4), 3);
    }

    static void addedThingIsOutOfRange() {
        Due.sentence("4: thing: 0 to 99999; BAD_VALUE if thing is out of range");
        Due.change("add(5, 0)", Due::furnished, x -> x.add(5, 0), 1);
        Due.change("add(5, 99999)", Due::furnished, x -> x.add(5, 99999), 1);
        for (int thing : new int[] {-1, 100000, LEAST, GREATEST, 65536 * 2, -65536}) {
            Due.error("add(5, " + thing + ")", Due::furnished, x -> x.add(5, thing), Due.BAD_VALUE);
        }
    }

    static void addTells1Or0() {
        Due.sentence("4: Returns 1 if a bucket has another rank by it, otherwise 0");
        for (int bits = 2; bits <= 6; bits++) {
            int last = (1 << bits) - 1;
            for (int bucket : new int[] {0, last}) {
                JoinedSketches x = Due.ranked(bits);
                for (int rank = 1; rank <= 17 - bits; rank++) {
                    int thing = Due.thingFor(Due.FIRST_SALT, bits, bucket, rank, 0);
                    Due.is("add() of rank " + rank + " to one less", x.add(0, thing), 1);
                    Due.is("add() of it again", x.add(0, thing), 0);
                }
                int lowest = Due.thingFor(Due.FIRST_SALT, bits, bucket, 1, 0);
                Due.is("add() of rank 1 to the greatest", x.add(0, lowest), 0);
            }
        }
    }

    static void addRangeIs(int from, int many, boolean isRange) {
        String call = "addRange(5, " + from + ", " + many + ")";
        if (!isRange) {
            Due.error(call, Due::furnished, x -> x.addRange(5, from, many), Due.BAD_VALUE);
            return;
        }
        JoinedSketches single = Due.furnished();
        long changes = 0;
        for (int thing = from; thing < from + Math.min(many, 400); thing++) {
            changes += single.add(5, thing);
        }
        if (many <= 400) {
            Due.change(call, Due::furnished, x -> x.addRange(5, from, many), changes);
        } else {
            Due.is(call + " is no error", Due.furnished().addRange(5, from, many) >= changes ? 1 : 0, 1);
        }
        JoinedSketches x = Due.furnished();
        x.addRange(5, from, many);
        Due.is("its list then", x.ofSketch(5, 8), many > 40 ? Due.NONE : many);
        Due.is("whether its last thing would change a rank", x.thing(5, from + many - 1, 3), 0);
    }

    static void fromIs0To99999() {
        Due.sentence("5: from: 0 to 99999");
        addRangeIs(0, 1, true);
        addRangeIs(1, 1, true);
        addRangeIs(99999, 1, true);
        for (int from : new int[] {-1, 100000, LEAST, GREATEST}) {
            addRangeIs(from, 1, false);
            addRangeIs(from, 999, false);
        }
    }

    static void manyIs1To999() {
        Due.sentence("5: many: 1 to 999");
        addRangeIs(7, 1, true);
        addRangeIs(7, 2, true);
        addRangeIs(7, 998, true);
        addRangeIs(7, 999, true);
        for (int many : new int[] {0, -1, 1000, LEAST, GREATEST}) {
            addRangeIs(7, many, false);
            addRangeIs(0, many, false);
        }
        // By these SALTs the hash of 998, and of 999, is 0: no other thing near has the rank 15 in bucket 0 of 4.
        Due.is("rank by thing 998 of 0 to 998", rankInBucket0(13718, 998), 15);
        Due.is("rank by thing 999 of 0 to 998", rankInBucket0(38751, 999) < 15 ? 1 : 0, 1);
    }

    static int rankInBucket0(int salt, int thing) {
        JoinedSketches x = new JoinedSketches();
        x.salt(salt);
        x.bits(0, 2);
        Due.is("hash of " + thing, x.thing(0, thing, 0), 0);
        x.addRange(0, 0, 999);
        return x.bucket(0, 0);
    }

    static void fromAndManyAtMost100000() {
        Due.sentence("5: from and many together at most 100000");
        addRangeIs(99999, 1, true);
        addRangeIs(99999, 2, false);
        addRangeIs(99960, 40, true);
        addRangeIs(99960, 41, false);
        addRangeIs(99001, 999, true);
        addRangeIs(99002, 999, false);
        addRangeIs(99002, 998, true);
        addRangeIs(99999, 999, false);
        addRangeIs(99999, GREATEST, false);
        addRangeIs(GREATEST, GREATEST, false);
        addRangeIs(LEAST, LEAST, false);
        addRangeIs(GREATEST, LEAST, false);
        addRangeIs(LEAST, GREATEST, false);
    }

    static void addRangeTellsHowManyChanged() {
        Due.sentence("5: Returns how many of them changed a rank");
        JoinedSketches x = new JoinedSketches();
        Due.is("addRange(0, 5, 1)", x.addRange(0, 5, 1), 1);
        Due.is("addRange(0, 5, 1) again", x.addRange(0, 5, 1), 0);
        JoinedSketches greatest = Due.ranked(2, 15, 15, 15, 15);
        Due.is("addRange(0, 0, 999) to the greatest ranks", greatest.addRange(0, 0, 999), 0);
        // By SALT 0 things 0 and 1 have the hashes 0 and 40649: two buckets.
        x.salt(0);
        Due.is("addRange(0, 0, 2), both new", x.addRange(0, 0, 2), 2);
    }

    static void joinNamesNoSketch() {
        Due.sentence("6: NO_SUCH if there is no such sketch");
        for (int none : Due.NO_SKETCHES) {
            for (int sketch : new int[] {0, 5, none}) {
                Due.error("join(" + none + ", " + sketch + ")", Due::furnished, x -> x.join(none, sketch), Due.NO_SUCH);
                Due.error("join(" + sketch + ", " + none + ")", Due::furnished, x -> x.join(sketch, none), Due.NO_SUCH);
            }
        }
    }

    static void joinOfTheSame() {
        Due.sentence("6: NOT_POSSIBLE if they are the same");
        for (int sketch = 0; sketch < 6; sketch++) {
            int same = sketch;
            Due.error("join(" + same + ", " + same + ")", Due::furnished, x -> x.join(same, same), Due.NOT_POSSIBLE);
        }
        Due.is("join(0, 5)", new JoinedSketches().join(0, 5), 0);
        Due.is("join(5, 0)", new JoinedSketches().join(5, 0), 0);
    }

    static JoinedSketches ofBits(int bits, int other) {
        JoinedSketches x = Due.ranked(bits, 1, 2);
        x.bits(1, other);
        x.add(1, 77);
        return x;
    }

    static void joinOfUnlikeBits() {
        Due.sentence("6: NOT_POSSIBLE if they have unlike BITS");
        for (int bits = 2; bits <= 6; bits++) {
            for (int other = 2; other <= 6; other++) {
                int one = bits;
                int second = other;
                String call = "join(0, 1) by BITS " + bits + " and " + other;
                if (bits != other) {
                    Due.error(call, () -> ofBits(one, second), x -> x.join(0, 1), Due.NOT_POSSIBLE);
                } else {
                    JoinedSketches x = ofBits(one, second);
                    x.join(0, 1);
                    Due.is("list after " + call, x.listed(0, 2), 77);
                }
            }
        }
    }

    static void joinTellsTheEstimate() {
        Due.sentence("6: Joins a sketch with another one, which stays; returns the estimate of the first one then");
        int[][] cases = {{0, 0, 0}, {0, 1, 1}, {1, 0, 1}, {4, 4, 5}, {0, 4, 5}, {4, 0, 5}};
        for (int[] filled : cases) {
            JoinedSketches x = new JoinedSketches();
            x.bits(0, 2);
            x.bits(1, 2);
            Due.fill(x, 0, Due.ranks(filled[0], 1));
            Due.fill(x, 1, Due.ranks(filled[1], 1));
            String other = Due.sketchText(x, 1);
            Due.is("join(0, 1) of " + filled[0] + " and " + filled[1], x.join(0, 1), filled[2]);
            Due.is("ofSketch(0, 6) then", x.ofSketch(0, 6), filled[2]);
            Due.is("the other one then", Due.sketchText(x, 1), other);
        }
        JoinedSketches x = Due.ranked(2, 15, 15, 0, 0);
        x.bits(1, 2);
        Due.fill(x, 1, 0, 0, 15, 15);
        Due.is("join(0, 1) to the greatest ranks", x.join(0, 1), 91750);
        Due.is("estimate of the other one", x.ofSketch(1, 6), 2);
    }

    static void foldOfBits2() {
        Due.sentence("7: Returns how many buckets there are then; NOT_POSSIBLE if BITS is 2");
        JoinedSketches x = Due.ranked(6, 1);
        for (int buckets : new int[] {32, 16, 8, 4}) {
            Due.is("fold(0)", x.fold(0), buckets);
            Due.is("ofSketch(0, 1)", x.ofSketch(0, 1), buckets);
            Due.is("the last bucket", x.bucket(0, buckets - 1), 0);
            Due.is("the one behind it", x.bucket(0, buckets), Due.NO_SUCH);
        }
        Due.is("fold(0) by BITS 2", x.fold(0), Due.NOT_POSSIBLE);
        Due.error("fold(0) by BITS 2", () -> Due.ranked(2, 1, 2), y -> y.fold(0), Due.NOT_POSSIBLE);
        Due.error("fold(0) by BITS 2, empty", () -> Due.ranked(2), y -> y.fold(0), Due.NOT_POSSIBLE);
        Due.change("fold(0) by BITS 3", () -> Due.ranked(3, 1, 2), y -> y.fold(0), 4);
        Due.change("fold(0) by BITS 3, empty", () -> Due.ranked(3), y -> y.fold(0), 4);
        Due.change("fold(5) by BITS 4", Due::furnished, y -> y.fold(5), 8);
        Due.change("fold(3) by BITS 6", Due::furnished, y -> y.fold(3), 32);
    }

    static void foldTakesTheGreaterOne() {
        Due.sentence("7: its rank is the greater one of what comes of both: of the lower one, b, if it is not empty, "
            + "its rank plus 1; of the upper one, if it is not empty, 1; an empty one gives 0");
        for (int bits = 3; bits <= 6; bits++) {
            int most = 17 - bits;
            int half = 1 << (bits - 1);
            int[][] cases = {{0, 0, 0}, {0, 1, 1}, {0, 2, 1}, {0, most, 1}, {1, 0, 2}, {1, 1, 2}, {1, most, 2},
                {most - 1, 0, most}, {most, 0, most + 1}, {most, 1, most + 1}, {most, most, most + 1}};
            for (int[] ranks : cases) {
                for (int bucket : new int[] {0, half - 1}) {
                    int[] at = new int[2 * half];
                    at[bucket] = ranks[0];
                    at[bucket + half] = ranks[1];
                    JoinedSketches x = Due.ranked(bits, at);
                    x.fold(0);
                    String of = ranks[0] + " and " + ranks[1] + " by BITS " + bits;
                    Due.is("bucket " + bucket + " of " + of, x.bucket(0, bucket), ranks[2]);
                    Due.is("buckets not empty of " + of, x.count(2), ranks[2] == 0 ? 0 : 1);
                    Due.is("BITS", x.ofSketch(0, 0), bits - 1);
                }
            }
        }
    }

    static void foldKeepsTheList() {
        Due.sentence("7: (The list stays.)");
        for (int many : new int[] {0, 1, 40, 41}) {
            JoinedSketches x = Due.ofMany(many);
            x.fold(0);
            Due.is("length of the list", x.ofSketch(0, 8), many == 41 ? Due.NONE : many);
            Due.is("the first place", x.listed(0, 0), many == 0 || many == 41 ? Due.NO_SUCH : 0);
            Due.is("place 39", x.listed(0, 39), many == 40 ? 39 : Due.NO_SUCH);
        }
    }

    static void emptyTellsHowMany() {
        Due.sentence("8: Empties a sketch; returns how many buckets were not empty");
        for (int bits = 2; bits <= 6; bits++) {
            int all = 1 << bits;
            for (int filled : new int[] {0, 1, all - 1, all}) {
                JoinedSketches x = Due.ranked(bits, Due.ranks(filled, 1));
                Due.is("empty(0) of " + filled + " by BITS " + bits, x.empty(0), filled);
                Due.is("the sketch then", Due.sketchText(x, 0), Due.sketchText(Due.ranked(bits), 0));
                Due.is("empty(0) again", x.empty(0), 0);
            }
        }
    }

    static void allAreChanges() {
        Due.sentence("2 to 8: This is a change (also if nothing is different then)");
        Due.change("salt(12345) of a new one", JoinedSketches::new, x -> x.salt(12345), 12345);
        Due.change("bits(0, 4) of a new one", JoinedSketches::new, x -> x.bits(0, 4), 4);
        Due.change("add(0, 1) of what is there", () -> Due.ofMany(2), x -> x.add(0, 1), 0);
        Due.change("addRange(0, 0, 2) of what is there", () -> Due.ofMany(2), x -> x.addRange(0, 0, 2), 0);
        Due.change("join(0, 1) of a new one", JoinedSketches::new, x -> x.join(0, 1), 0);
        Due.change("fold(0) of a new one", JoinedSketches::new, x -> x.fold(0), 8);
        Due.change("empty(0) of a new one", JoinedSketches::new, x -> x.empty(0), 0);
        Due.change("salt(0)", Due::furnished, x -> x.salt(0), 12345);
        Due.change("bits(0, 3)", Due::furnished, x -> x.bits(0, 3), 2);
        Due.change("add(5, 1)", Due::furnished, x -> x.add(5, 1), 1);
        Due.change("addRange(5, 1, 1)", Due::furnished, x -> x.addRange(5, 1, 1), 1);
        Due.change("join(4, 5)", Due::furnished, x -> x.join(4, 5), 0);
        Due.change("fold(1)", Due::furnished, x -> x.fold(1), 8);
        Due.change("empty(0)", Due::furnished, x -> x.empty(0), 4);
    }
}
