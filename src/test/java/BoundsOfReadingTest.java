/** The edges that promises 9 to 14 name: a test for each sentence that names one. */
final class BoundsOfReadingTest {
    private static final int LEAST = Integer.MIN_VALUE, GREATEST = Integer.MAX_VALUE;

    public static void main(String[] args) {
        thingIsNot0To99999();
        whatOfThing();
        thingWouldChangeARank();
        bucketTellsTheRank();
        noSuchBucket();
        whatOfSketch();
        greatestRank();
        emptyBuckets();
        thingsOfTheList();
        rankIs0To15();
        setOfBuckets();
        errorsOfWithRank();
        noSuchPlace();
        fullListsHaveNoPlace();
        whatOfCount();
        countsOfANewOne();
        greatestCounts();
        changesThatCanBeUndone();
        Due.end();
    }

    static void thingIsNot0To99999() {
        Due.sentence("9: BAD_VALUE if thing is not 0 to 99999");
        Due.question("thing(0, 0, 1)", Due::furnished, x -> x.thing(0, 0, 1), Due.hash(0, 12345) % 4);
        Due.question("thing(0, 99999, 1)", Due::furnished, x -> x.thing(0, 99999, 1), Due.hash(99999, 12345) % 4);
        for (int thing : new int[] {-1, 100000, LEAST, GREATEST}) {
            for (int what : new int[] {0, 3, -1, 4}) {
                Due.error("thing(0, " + thing + ", " + what + ")", Due::furnished, x -> x.thing(0, thing, what),
                    Due.BAD_VALUE);
            }
        }
    }

    static void whatOfThing() {
        Due.sentence("9: what: 0 its hash, 1 its bucket, 2 its rank, 3 whether it would change a rank; BAD_VALUE if "
            + "what is out of range");
        // Thing 0 has the hash 12345 XOR 48: 12297 is 768 * 16 + 9, and 768 ends with 8 zeros.
        int[] due = {12297, 9, 9, 1};
        for (int what = 0; what <= 3; what++) {
            int asked = what;
            Due.question("thing(5, 0, " + what + ")", Due::furnished, x -> x.thing(5, 0, asked), due[what]);
        }
        for (int what : new int[] {-1, 4, LEAST, GREATEST}) {
            Due.error("thing(5, 0, " + what + ")", Due::furnished, x -> x.thing(5, 0, what), Due.BAD_VALUE);
        }
    }

    static void thingWouldChangeARank() {
        Due.sentence("9: 3 whether it would change a rank (1 or 0)");
        for (int bits = 2; bits <= 6; bits++) {
            int most = 17 - bits;
            int last = (1 << bits) - 1;
            for (int has = 0; has <= most; has += has == 0 ? 1 : most - 1) {
                int[] ranks = new int[last + 1];
                ranks[last] = has;
                JoinedSketches x = Due.ranked(bits, ranks);
                for (int rank = 1; rank <= most; rank++) {
                    int thing = Due.thingFor(Due.FIRST_SALT, bits, last, rank, 0);
                    Due.is("whether " + rank + " would change " + has, x.thing(0, thing, 3), rank > has ? 1 : 0);
                }
            }
        }
    }

    static void bucketTellsTheRank() {
        Due.sentence("10: Returns the rank");
        for (int bits = 2; bits <= 6; bits++) {
            int last = (1 << bits) - 1;
            for (int rank : new int[] {0, 1, 17 - bits}) {
                int[] ranks = new int[last + 1];
                ranks[0] = rank;
                ranks[last] = rank;
                JoinedSketches x = Due.ranked(bits, ranks);
                Due.is("bucket(0, 0)", x.bucket(0, 0), rank);
                Due.is("bucket(0, 1)", x.bucket(0, 1), 0);
                Due.is("bucket(0, " + last + ")", x.bucket(0, last), rank);
            }
        }
    }

    static void noSuchBucket() {
        Due.sentence("10: NO_SUCH if there is no such sketch or bucket");
        for (int bits = 2; bits <= 6; bits++) {
            int ofBits = bits;
            int last = (1 << bits) - 1;
            Due.question("bucket(0, " + last + ")", () -> Due.ranked(ofBits), x -> x.bucket(0, last), 0);
            for (int bucket : new int[] {-1, last + 1, last + 2, 64, LEAST, GREATEST}) {
                Due.error("bucket(0, " + bucket + ") by BITS " + bits, () -> Due.ranked(ofBits),
                    x -> x.bucket(0, bucket), Due.NO_SUCH);
            }
        }
        for (int none : Due.NO_SKETCHES) {
            for (int bucket : new int[] {0, -1, 64}) {
                Due.error("bucket(" + none + ", " + bucket + ")", Due::furnished, x -> x.bucket(none, bucket),
                    Due.NO_SUCH);
            }
        }
        for (int bits = 2; bits <= 5; bits++) {
            for (int bucket = 1 << bits; bucket <= 64; bucket++) {
                Due.is("bucket(0, " + bucket + ") by BITS " + bits, Due.ranked(bits).bucket(0, bucket), Due.NO_SUCH);
            }
        }
        JoinedSketches x = Due.ranked(6, Due.ranks(64, 1));
        x.bits(0, 5);
        Due.is("bucket(0, 32) by BITS 5, once 6", x.bucket(0, 32), Due.NO_SUCH);
        x.undo();
        Due.is("bucket(0, 63) by BITS 6 again", x.bucket(0, 63), 1);
    }

    static void whatOfSketch() {
        Due.sentence("11: what: 0 BITS, 1 its buckets, ... 8 how many things its list has; BAD_VALUE if what is out "
            + "of range");
        // Ranks 1, 1, 2 by BITS 5, as 1024 * 458752 / 19824640 is 23, and 32/30 + 32/31 + 32/32 is 3.
        int[] due = {5, 32, 29, 2, 1982464, 23, 3, 0, 3};
        for (int what = 0; what <= 8; what++) {
            int asked = what;
            Due.question("ofSketch(0, " + what + ")", () -> Due.ranked(5, 1, 1, 2), x -> x.ofSketch(0, asked),
                due[what]);
        }
        for (int what : new int[] {-1, 9, LEAST, GREATEST}) {
            Due.error("ofSketch(0, " + what + ")", Due::furnished, x -> x.ofSketch(0, what), Due.BAD_VALUE);
        }
    }

    static void greatestRank() {
        Due.sentence("11: 3 the greatest rank");
        for (int bits = 2; bits <= 6; bits++) {
            int last = (1 << bits) - 1;
            Due.is("ofSketch(0, 3) of an empty one", Due.ranked(bits).ofSketch(0, 3), 0);
            for (int rank : new int[] {1, 17 - bits}) {
                int[] ranks = new int[last + 1];
                ranks[last] = rank;
                Due.is("ofSketch(0, 3), the last bucket alone", Due.ranked(bits, ranks).ofSketch(0, 3), rank);
                Due.is("ofSketch(0, 3), the first bucket alone", Due.ranked(bits, rank).ofSketch(0, 3), rank);
            }
        }
    }

    static void emptyBuckets() {
        Due.sentence("11: 2 empty ones");
        for (int bits = 2; bits <= 6; bits++) {
            int all = 1 << bits;
            for (int filled : new int[] {0, 1, all - 1, all}) {
                JoinedSketches x = Due.ranked(bits, Due.ranks(filled, 1));
                Due.is("ofSketch(0, 2), " + filled + " of " + all + " not empty", x.ofSketch(0, 2), all - filled);
            }
        }
    }

    static void thingsOfTheList() {
        Due.sentence("11: 8 how many things its list has (NONE if it is full)");
        int[][] cases = {{0, 0}, {1, 1}, {39, 39}, {40, 40}, {41, Due.NONE}, {999, Due.NONE}};
        for (int[] things : cases) {
            Due.question("ofSketch(0, 8) of " + things[0], () -> Due.ofMany(things[0]), x -> x.ofSketch(0, 8),
                things[1]);
        }
    }

    static void rankIs0To15() {
        Due.sentence("12: rank: 0 to 15");
        JoinedSketches x = Due.ranked(2, 15, 0, 1, 15);
        Due.is("withRank(0, 0)", x.withRank(0, 0), 2);
        Due.is("withRank(0, 1)", x.withRank(0, 1), 4);
        Due.is("withRank(0, 14)", x.withRank(0, 14), 0);
        Due.is("withRank(0, 15)", x.withRank(0, 15), 9);
        for (int rank = 12; rank <= 15; rank++) {
            int asked = rank;
            Due.question("withRank(3, " + rank + "), which no bucket of 64 can have", Due::furnished,
                y -> y.withRank(3, asked), 0);
        }
    }

    static void setOfBuckets() {
        Due.sentence("12: Returns the set");
        for (int bits = 2; bits <= 6; bits++) {
            int all = 1 << bits;
            long ones = bits == 6 ? -1 : (1L << all) - 1;
            JoinedSketches none = Due.ranked(bits);
            Due.is("withRank(0, 0), all empty", none.withRank(0, 0), ones);
            Due.is("withRank(0, 1), all empty", none.withRank(0, 1), 0);
            JoinedSketches x = Due.ranked(bits, Due.ranks(all, 17 - bits));
            Due.is("withRank(0, 0), none empty", x.withRank(0, 0), 0);
            Due.is("withRank(0, " + (17 - bits) + "), all of the greatest", x.withRank(0, 17 - bits), ones);
            Due.is("withRank(0, " + (16 - bits) + ")", x.withRank(0, 16 - bits), 0);
        }
    }

    static void errorsOfWithRank() {
        Due.sentence("12: -1 if there is no such sketch; -2 if rank is out of range");
        for (int none : Due.NO_SKETCHES) {
            for (int rank : new int[] {0, 15, -1, 16}) {
                Due.error("withRank(" + none + ", " + rank + ")", Due::furnished, x -> x.withRank(none, rank), -1L);
            }
        }
        for (int rank : new int[] {-1, 16, LEAST, GREATEST}) {
            Due.error("withRank(0, " + rank + ")", Due::furnished, x -> x.withRank(0, rank), -2L);
        }
    }

    static void noSuchPlace() {
        Due.sentence("13: Returns the thing; NO_SUCH if there is no such sketch or place");
        for (int many : new int[] {0, 1, 39, 40}) {
            for (int place : new int[] {0, many - 1}) {
                if (place >= 0 && place < many) {
                    Due.question("listed(0, " + place + ") of " + many, () -> Due.ofMany(many), x -> x.listed(0, place),
                        place);
                }
            }
            for (int place : new int[] {-1, many, many + 1, LEAST, GREATEST}) {
                Due.error("listed(0, " + place + ") of " + many, () -> Due.ofMany(many), x -> x.listed(0, place),
                    Due.NO_SUCH);
            }
        }
        for (int none : Due.NO_SKETCHES) {
            for (int place : new int[] {0, -1, 40}) {
                Due.error("listed(" + none + ", " + place + ")", Due::furnished, x -> x.listed(none, place),
                    Due.NO_SUCH);
            }
        }
        JoinedSketches x = Due.ofMany(40);
        x.empty(0);
        Due.is("listed(0, 0) after empty(0)", x.listed(0, 0), Due.NO_SUCH);
        x.add(0, 5);
        Due.is("listed(0, 0) after add(0, 5)", x.listed(0, 0), 5);
        Due.is("listed(0, 1), which was there once", x.listed(0, 1), Due.NO_SUCH);
    }

    static void fullListsHaveNoPlace() {
        Due.sentence("13: (a full one has none)");
        for (int place : new int[] {0, 1, 39, 40, -1}) {
            Due.error("listed(0, " + place + ") of a full one", () -> Due.ofMany(41), x -> x.listed(0, place),
                Due.NO_SUCH);
        }
    }

    static void whatOfCount() {
        Due.sentence("14: BAD_VALUE if what is out of range");
        for (int what : new int[] {-1, 6, LEAST, GREATEST}) {
            Due.error("count(" + what + ")", Due::furnished, x -> x.count(what), Due.BAD_VALUE);
        }
        Due.question("count(0)", Due::furnished, x -> x.count(0), 12345);
        Due.question("count(5)", Due::furnished, x -> x.count(5), 6);
    }

    static void countsOfANewOne() {
        Due.sentence("14: what: 0 SALT, 1 sketches that are not empty, ... of a new one");
        int[] due = {12345, 0, 0, 0, 0, 0};
        for (int what = 0; what <= 5; what++) {
            int asked = what;
            Due.question("count(" + what + ")", JoinedSketches::new, x -> x.count(asked), due[what]);
        }
    }

    static void greatestCounts() {
        Due.sentence("14: 1 sketches that are not empty, 2 all buckets that are not empty, 3 full lists, 4 the "
            + "length of the pad");
        JoinedSketches x = new JoinedSketches();
        for (int sketch = 0; sketch < 6; sketch++) {
            x.bits(sketch, 6);
            x.add(sketch, 7);
            Due.is("count(1)", x.count(1), sketch + 1);
            x.addRange(sketch, 0, 999);
            Due.is("empty buckets after 999 things", x.ofSketch(sketch, 2), 0);
            Due.is("count(2)", x.count(2), 64 * (sketch + 1));
            Due.is("count(3)", x.count(3), sketch + 1);
        }
        Due.put(x, "0!;".repeat(26) + "5!");
        Due.is("count(4)", x.count(4), 80);
        x.salt(65535);
        int[] due = {65535, 0, 0, 0, 80, 6};
        for (int what = 0; what <= 5; what++) {
            Due.is("count(" + what + ") after salt(65535)", x.count(what), due[what]);
        }
        JoinedSketches y = Due.ofMany(40);
        Due.is("count(3), a list of 40", y.count(3), 0);
        y.add(0, 40);
        Due.is("count(3), a list of 40 and one more", y.count(3), 1);
    }

    static void changesThatCanBeUndone() {
        Due.sentence("14: 5 how many changes can be undone");
        JoinedSketches x = new JoinedSketches();
        int[] due = {0, 1, 2, 3, 4, 5, 6, 6, 6};
        for (int changes = 0; changes < due.length; changes++) {
            Due.is("count(5) after " + changes, x.count(5), due[changes]);
            x.add(0, changes);
        }
        for (int left = 5; left >= 0; left--) {
            x.undo();
            Due.is("count(5) after undo()", x.count(5), left);
        }
        x.undo();
        Due.is("count(5) after undo() of nothing", x.count(5), 0);
    }
}
