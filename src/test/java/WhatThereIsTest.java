/** Promises 9 to 14: thing, bucket, ofSketch, withRank, listed, count. */
final class WhatThereIsTest {
    public static void main(String[] args) {
        thingTells();
        thingWouldChange();
        thingErrors();
        bucketTells();
        ofSketchOfEmptyOnes();
        ofSketchByEmptyBuckets();
        ofSketchByRanks();
        ofSketchOfTheGreatest();
        ofSketchErrors();
        withRankTells();
        listedTells();
        countTells();
        Due.end();
    }

    static void thingTells() {
        for (int salt : new int[] {0, 1, Due.FIRST_SALT, 65535}) {
            JoinedSketches x = new JoinedSketches();
            x.salt(salt);
            for (int bits = 2; bits <= 6; bits++) {
                x.bits(1, bits);
                for (int thing : new int[] {0, 1, 7, 255, 256, 53020, 53022, 65535, 65536, 99998, 99999}) {
                    int hash = Due.hash(thing, salt);
                    int buckets = 1 << bits;
                    String call = "thing(1, " + thing + ", . ) by SALT " + salt + " and BITS " + bits;
                    Due.is(call + ", hash", x.thing(1, thing, 0), hash);
                    Due.is(call + ", bucket", x.thing(1, thing, 1), hash % buckets);
                    Due.is(call + ", rank", x.thing(1, thing, 2), Due.rankOfLeft(hash / buckets, bits));
                }
            }
        }
        JoinedSketches x = new JoinedSketches();
        Due.is("hash of 7", x.thing(0, 7, 0), 33593);
        Due.is("bucket of 7", x.thing(0, 7, 1), 9);
        Due.is("rank of 7", x.thing(0, 7, 2), 1);
        x.salt(3);
        Due.is("rank of 0 by SALT 3: the left part is 0", x.thing(0, 0, 2), 13);
        x.salt(64);
        Due.is("rank of 0 by SALT 64", x.thing(0, 0, 2), 3);
    }

    static void thingWouldChange() {
        JoinedSketches x = new JoinedSketches();
        int two = Due.thingFor(Due.FIRST_SALT, 4, 6, 2, 0);
        int three = Due.thingFor(Due.FIRST_SALT, 4, 6, 3, 0);
        int otherTwo = Due.thingFor(Due.FIRST_SALT, 4, 6, 2, two + 1);
        Due.is("whether 2 would change 0", x.thing(3, two, 3), 1);
        x.add(3, two);
        Due.is("whether 2 would change 2", x.thing(3, otherTwo, 3), 0);
        Due.is("whether it would change itself", x.thing(3, two, 3), 0);
        Due.is("whether 3 would change 2", x.thing(3, three, 3), 1);
        Due.is("in another sketch", x.thing(2, two, 3), 1);
        x.add(3, three);
        Due.is("whether 2 would change 3", x.thing(3, otherTwo, 3), 0);
    }

    static void thingErrors() {
        for (int sketch : Due.NO_SKETCHES) {
            Due.error("thing(" + sketch + ", 0, 0)", Due::furnished, x -> x.thing(sketch, 0, 0), Due.NO_SUCH);
            Due.error("thing(" + sketch + ", -1, 9)", Due::furnished, x -> x.thing(sketch, -1, 9), Due.NO_SUCH);
        }
        for (int thing : new int[] {-1, 100000, Integer.MIN_VALUE, Integer.MAX_VALUE}) {
            for (int what = 0; what <= 3; what++) {
                int asked = what;
                Due.error("thing(0, " + thing + ", " + what + ")", Due::furnished,
                    x -> x.thing(0, thing, asked), Due.BAD_VALUE);
            }
        }
        for (int what : new int[] {-1, 4, Integer.MIN_VALUE, Integer.MAX_VALUE}) {
            Due.error("thing(0, 0, " + what + ")", Due::furnished, x -> x.thing(0, 0, what), Due.BAD_VALUE);
        }
        for (int what = 0; what <= 3; what++) {
            int asked = what;
            long answer = Due.furnished().thing(0, 500, what);
            Due.question("thing(0, 500, " + what + ")", Due::furnished, x -> x.thing(0, 500, asked), answer);
        }
    }

    static void bucketTells() {
        JoinedSketches x = new JoinedSketches();
        x.bits(0, 3);
        int[] ranks = {1, 0, 14, 2, 0, 3, 0, 9};
        Due.fill(x, 0, ranks);
        for (int bucket = 0; bucket < ranks.length; bucket++) {
            Due.is("bucket(0, " + bucket + ")", x.bucket(0, bucket), ranks[bucket]);
        }
        for (int bits = 2; bits <= 6; bits++) {
            x.bits(1, bits);
            Due.is("the last bucket", x.bucket(1, (1 << bits) - 1), 0);
            Due.is("one behind it", x.bucket(1, 1 << bits), Due.NO_SUCH);
        }
        for (int sketch : Due.NO_SKETCHES) {
            Due.error("bucket(" + sketch + ", 0)", Due::furnished, y -> y.bucket(sketch, 0), Due.NO_SUCH);
        }
        for (int bucket : new int[] {-1, 4, 64, Integer.MIN_VALUE, Integer.MAX_VALUE}) {
            Due.error("bucket(0, " + bucket + ")", Due::furnished, y -> y.bucket(0, bucket), Due.NO_SUCH);
        }
        Due.question("bucket(5, 15)", Due::furnished, y -> y.bucket(5, 15), 0);
    }

    static void ofSketchIs(String of, JoinedSketches x, int sketch, int... due) {
        for (int what = 0; what < due.length; what++) {
            Due.is(of + ": ofSketch(" + sketch + ", " + what + ")", x.ofSketch(sketch, what), due[what]);
        }
    }

    static void ofSketchOfEmptyOnes() {
        JoinedSketches x = new JoinedSketches();
        // All buckets empty: S is m * 65536, and the raw estimate m * 7 / 10.
        int[] raw = {0, 0, 2, 5, 11, 22, 44};
        for (int bits = 2; bits <= 6; bits++) {
            int buckets = 1 << bits;
            x.bits(0, bits);
            ofSketchIs("empty", x, 0, bits, buckets, buckets, 0, buckets * 65536, raw[bits], 0, 0, 0);
        }
    }

    static void ofSketchByEmptyBuckets() {
        JoinedSketches x = new JoinedSketches();
        x.bits(0, 2);
        Due.fill(x, 0, 1, 2, 3, 0);
        // S is 32768 + 16384 + 8192 + 65536; raw 16 * 65536 * 7 / 1228800; 4/2 + 4/3 + 4/4; 4 * 104 / 200.
        ofSketchIs("1, 2, 3, 0", x, 0, 2, 4, 1, 3, 122880, 5, 4, 2, 3);
        x.bits(3, 2);
        Due.fill(x, 3, 3, 2, 1, 0);
        ofSketchIs("3, 2, 1, 0", x, 3, 2, 4, 1, 3, 122880, 5, 4, 2, 3);
        x.bits(1, 2);
        Due.fill(x, 1, 6, 6, 0, 0);
        // S is 1024 + 1024 + 2 * 65536; raw 7340032 / 1331200; 4/3 + 4/4; 2 * 104 / 200.
        ofSketchIs("6, 6, 0, 0", x, 1, 2, 4, 2, 6, 133120, 5, 2, 1, 2);
        x.bits(2, 5);
        Due.fill(x, 2, 1, 1, 2);
        // S is 2 * 32768 + 16384 + 29 * 65536; raw 1024 * 458752 / 19824640; 32/30 + 32/31 + 32/32; 3 * 104 / 500.
        ofSketchIs("1, 1, 2", x, 2, 5, 32, 29, 2, 1982464, 23, 3, 0, 3);
    }

    static void ofSketchByRanks() {
        JoinedSketches x = new JoinedSketches();
        x.bits(0, 2);
        Due.fill(x, 0, 1, 1, 1, 1);
        // None empty, so the raw one counts though it is at most 10: 7340032 / 1310720.
        ofSketchIs("1, 1, 1, 1", x, 0, 2, 4, 0, 1, 131072, 5, 5, 2, 4);
        x.bits(1, 3);
        Due.fill(x, 1, 15 - 1, 0, 14, 14, 14, 14, 14, 14);
        // One empty: S is 65536 + 7 * 4; raw 64 * 458752 / 655640 is 44, above 20; 44 * 104 / 200.
        ofSketchIs("7 of 14", x, 1, 3, 8, 1, 14, 65564, 44, 44, 22, 7);
        x.bits(2, 2);
        Due.fill(x, 2, 15, 15, 5, 0);
        // S is 2 + 2 + 2048 + 65536: raw 7340032 / 675880 is 10, which is still at most 10.
        ofSketchIs("15, 15, 5, 0", x, 2, 2, 4, 1, 15, 67588, 10, 4, 2, 3);
        x.bits(3, 2);
        Due.fill(x, 3, 15, 15, 9, 0);
        // S is 2 + 2 + 128 + 65536: raw 7340032 / 656680 is 11, above 10.
        ofSketchIs("15, 15, 9, 0", x, 3, 2, 4, 1, 15, 65668, 11, 11, 5, 3);
    }

    static void ofSketchOfTheGreatest() {
        int[] roots = {0, 0, 2, 2, 4, 5, 8};
        for (int bits = 2; bits <= 6; bits++) {
            JoinedSketches x = new JoinedSketches();
            x.bits(4, bits);
            int buckets = 1 << bits;
            int[] ranks = new int[buckets];
            java.util.Arrays.fill(ranks, 17 - bits);
            Due.fill(x, 4, ranks);
            int sum = buckets * (65536 >> (17 - bits));
            long raw = (long) buckets * buckets * 65536 * 7 / (10L * sum);
            int told = (int) (raw * 104 / (100L * roots[bits]));
            int listed = buckets > 40 ? Due.NONE : buckets;
            ofSketchIs("greatest", x, 4, bits, buckets, 0, 17 - bits, sum, (int) raw, (int) raw, told, listed);
        }
    }

    static void ofSketchErrors() {
        for (int sketch : Due.NO_SKETCHES) {
            Due.error("ofSketch(" + sketch + ", 0)", Due::furnished, x -> x.ofSketch(sketch, 0), Due.NO_SUCH);
            Due.error("ofSketch(" + sketch + ", 9)", Due::furnished, x -> x.ofSketch(sketch, 9), Due.NO_SUCH);
        }
        for (int what : new int[] {-1, 9, Integer.MIN_VALUE, Integer.MAX_VALUE}) {
            Due.error("ofSketch(0, " + what + ")", Due::furnished, x -> x.ofSketch(0, what), Due.BAD_VALUE);
        }
        for (int what = 0; what <= 8; what++) {
            int asked = what;
            long answer = Due.furnished().ofSketch(3, what);
            Due.question("ofSketch(3, " + what + ")", Due::furnished, x -> x.ofSketch(3, asked), answer);
        }
    }

    static void withRankTells() {
        JoinedSketches x = new JoinedSketches();
        x.bits(0, 3);
        Due.fill(x, 0, 1, 0, 14, 2, 0, 2, 0, 1);
        Due.is("withRank(0, 0)", x.withRank(0, 0), 0b01010010L);
        Due.is("withRank(0, 1)", x.withRank(0, 1), 0b10000001L);
        Due.is("withRank(0, 2)", x.withRank(0, 2), 0b00101000L);
        Due.is("withRank(0, 3)", x.withRank(0, 3), 0);
        Due.is("withRank(0, 14)", x.withRank(0, 14), 0b00000100L);
        Due.is("withRank(0, 15)", x.withRank(0, 15), 0);
        x.bits(1, 2);
        Due.fill(x, 1, 0, 0, 0, 15);
        Due.is("withRank(1, 15)", x.withRank(1, 15), 8);
        Due.is("withRank(2, 0)", x.withRank(2, 0), 65535);
        x.bits(3, 6);
        Due.is("withRank(3, 0), all of 64", x.withRank(3, 0), -1L);
        x.add(3, Due.thingFor(Due.FIRST_SALT, 6, 63, 1, 0));
        x.add(3, Due.thingFor(Due.FIRST_SALT, 6, 40, 1, 0));
        Due.is("withRank(3, 1)", x.withRank(3, 1), (1L << 63) + (1L << 40));
        Due.is("withRank(3, 0)", x.withRank(3, 0), ~((1L << 63) + (1L << 40)));
        for (int sketch : Due.NO_SKETCHES) {
            Due.error("withRank(" + sketch + ", 0)", Due::furnished, y -> y.withRank(sketch, 0), -1L);
            Due.error("withRank(" + sketch + ", 16)", Due::furnished, y -> y.withRank(sketch, 16), -1L);
        }
        for (int rank : new int[] {-1, 16, Integer.MIN_VALUE, Integer.MAX_VALUE}) {
            Due.error("withRank(0, " + rank + ")", Due::furnished, y -> y.withRank(0, rank), -2L);
        }
        Due.question("withRank(5, 0)", Due::furnished, y -> y.withRank(5, 0), 65535L);
    }

    static void listedTells() {
        JoinedSketches x = new JoinedSketches();
        Due.is("listed(0, 0) of an empty one", x.listed(0, 0), Due.NO_SUCH);
        x.addRange(0, 200, 39);
        Due.is("listed(0, 38)", x.listed(0, 38), 238);
        Due.is("listed(0, 39)", x.listed(0, 39), Due.NO_SUCH);
        x.add(0, 3);
        Due.is("listed(0, 39) of 40", x.listed(0, 39), 3);
        Due.is("listed(0, 40) of 40", x.listed(0, 40), Due.NO_SUCH);
        x.add(0, 4);
        Due.is("listed(0, 0) of a full one", x.listed(0, 0), Due.NO_SUCH);
        Due.is("listed(0, 39) of a full one", x.listed(0, 39), Due.NO_SUCH);
        for (int sketch : Due.NO_SKETCHES) {
            Due.error("listed(" + sketch + ", 0)", Due::furnished, y -> y.listed(sketch, 0), Due.NO_SUCH);
        }
        for (int place : new int[] {-1, 7, 40, Integer.MIN_VALUE, Integer.MAX_VALUE}) {
            Due.error("listed(0, " + place + ")", Due::furnished, y -> y.listed(0, place), Due.NO_SUCH);
        }
        Due.question("listed(0, 6)", Due::furnished, y -> y.listed(0, 6), 506);
    }

    static void countTells() {
        JoinedSketches x = new JoinedSketches();
        x.salt(9);
        x.bits(0, 3);
        Due.fill(x, 0, 1, 2, 3);
        x.addRange(5, 0, 41);
        x.addRange(2, 0, 99);
        x.add(4, 1);
        x.put(Due.packed("0:1,2"));
        Due.is("count(0)", x.count(0), 9);
        Due.is("count(1)", x.count(1), 4);
        Due.is("count(2)", x.count(2), 3 + 1 + 32 - x.ofSketch(5, 2) - x.ofSketch(2, 2));
        Due.is("count(3)", x.count(3), 2);
        Due.is("count(4)", x.count(4), 5);
        Due.is("count(5)", x.count(5), 6);
        x.undo();
        Due.is("count(1) after undo()", x.count(1), 3);
        Due.is("count(4) after undo()", x.count(4), 5);
        Due.is("count(5) after undo()", x.count(5), 5);
        for (int what : new int[] {-1, 6, Integer.MIN_VALUE, Integer.MAX_VALUE}) {
            Due.error("count(" + what + ")", Due::furnished, y -> y.count(what), Due.BAD_VALUE);
        }
        int[] due = {12345, 4, 4 + Due.furnished().empty(1) + Due.furnished().empty(2) + Due.furnished().empty(3),
            1, 16, 6};
        for (int what = 0; what <= 5; what++) {
            int asked = what;
            Due.question("count(" + what + ")", Due::furnished, y -> y.count(asked), due[what]);
        }
    }
}
