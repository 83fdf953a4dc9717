/** Promises 15 to 19: together, alike, off, nextNew, bestSalt. */
final class QuestionsTest {
    public static void main(String[] args) {
        togetherTells();
        togetherErrors();
        alikeTells();
        alikeErrors();
        offTells();
        nextNewTells();
        nextNewOfFullOnes();
        nextNewErrors();
        bestSaltTells();
        bestSaltTakesTheLeast();
        bestSaltErrors();
        Due.end();
    }

    static void togetherTells() {
        JoinedSketches x = new JoinedSketches();
        x.bits(0, 2);
        x.bits(1, 2);
        Due.fill(x, 0, 3, 0, 2, 0);
        Due.fill(x, 1, 1, 0, 5, 4);
        Due.is("together(0, 1)", x.together(0, 1), 4);
        Due.is("together(1, 0)", x.together(1, 0), 4);
        Due.is("together(0, 0)", x.together(0, 0), 2);
        Due.is("together(1, 1)", x.together(1, 1), 4);
        for (int from = 0; from < 2000; from += 400) {
            JoinedSketches y = new JoinedSketches();
            y.addRange(2, from, 60 + from / 10);
            y.addRange(4, from + 50, 90);
            int estimate = y.together(2, 4);
            Due.is("join(2, 4)", y.join(2, 4), estimate);
            Due.is("estimate then", y.ofSketch(2, 6), estimate);
        }
    }

    static void togetherErrors() {
        int[][] none = {{6, 0}, {0, 6}, {-1, 0}, {0, -1}, {6, 6}, {-1, -1}, {Integer.MIN_VALUE, 1},
            {1, Integer.MAX_VALUE}};
        for (int[] pair : none) {
            String of = "(" + pair[0] + ", " + pair[1] + ")";
            Due.error("together" + of, Due::furnished, x -> x.together(pair[0], pair[1]), Due.NO_SUCH);
        }
        for (int[] pair : new int[][] {{0, 1}, {1, 0}, {3, 2}}) {
            String of = "(" + pair[0] + ", " + pair[1] + ")";
            Due.error("together" + of, Due::furnished, x -> x.together(pair[0], pair[1]), Due.NOT_POSSIBLE);
        }
        long estimate = Due.furnished().ofSketch(0, 6);
        Due.question("together(0, 0)", Due::furnished, x -> x.together(0, 0), estimate);
        long both = Due.furnished().join(1, 2);
        Due.question("together(1, 2)", Due::furnished, x -> x.together(1, 2), both);
    }

    static void alikeTells() {
        for (int bits = 2; bits <= 6; bits++) {
            int buckets = 1 << bits;
            JoinedSketches x = new JoinedSketches();
            x.bits(0, bits);
            x.bits(1, bits);
            for (int unlike = 0; unlike <= buckets; unlike++) {
                float share = (float) (buckets - unlike) / (float) buckets;
                Due.is("alike(0, 1), " + unlike + " of " + buckets + " unlike",
                    x.alike(0, 1), Float.floatToIntBits(share));
                Due.is("alike(1, 0)", x.alike(1, 0), Float.floatToIntBits(share));
                if (unlike < buckets) {
                    x.add(unlike % 2, Due.thingFor(Due.FIRST_SALT, bits, unlike, 1, 0));
                }
            }
            Due.is("alike(0, 0)", x.alike(0, 0), Float.floatToIntBits(1.0f));
        }
        JoinedSketches x = new JoinedSketches();
        x.bits(0, 2);
        x.bits(1, 2);
        Due.fill(x, 0, 3, 0, 2, 1);
        Due.fill(x, 1, 1, 0, 2, 4);
        Due.is("alike() of 3, 0, 2, 1 and 1, 0, 2, 4", x.alike(0, 1), Float.floatToIntBits(0.5f));
    }

    static void alikeErrors() {
        int[][] none = {{6, 0}, {0, 6}, {-1, 0}, {0, -1}, {6, 6}, {-1, -1}, {Integer.MIN_VALUE, 1},
            {1, Integer.MAX_VALUE}};
        for (int[] pair : none) {
            String of = "(" + pair[0] + ", " + pair[1] + ")";
            Due.error("alike" + of, Due::furnished, x -> x.alike(pair[0], pair[1]), Due.NO_SUCH);
        }
        for (int[] pair : new int[][] {{0, 1}, {1, 0}, {3, 2}}) {
            String of = "(" + pair[0] + ", " + pair[1] + ")";
            Due.error("alike" + of, Due::furnished, x -> x.alike(pair[0], pair[1]), Due.NOT_POSSIBLE);
        }
        Due.question("alike(4, 5)", Due::furnished, x -> x.alike(4, 5), Float.floatToIntBits(1.0f));
    }

    static void offTells() {
        JoinedSketches x = new JoinedSketches();
        Due.is("off(0) of an empty one", x.off(0), 100000);
        x.bits(1, 2);
        Due.fill(x, 1, 1, 2, 3, 0);
        Due.is("off(1): 4 less 3", x.off(1), 100001);
        int second = Due.thingFor(Due.FIRST_SALT, 2, 0, 1, Due.thingFor(Due.FIRST_SALT, 2, 0, 1, 0) + 1);
        int third = Due.thingFor(Due.FIRST_SALT, 2, 0, 1, second + 1);
        x.add(1, second);
        x.add(1, third);
        Due.is("off(1): 4 less 5", x.off(1), 99999);
        x.addRange(2, 0, 40);
        Due.is("off(2) of 40", x.off(2), 100000 + x.ofSketch(2, 6) - 40);
        x.add(2, 40);
        Due.is("off(2) of a full one", x.off(2), Due.NOT_POSSIBLE);
        for (int sketch : Due.NO_SKETCHES) {
            Due.error("off(" + sketch + ")", Due::furnished, y -> y.off(sketch), Due.NO_SUCH);
        }
        Due.error("off(1)", Due::furnished, y -> y.off(1), Due.NOT_POSSIBLE);
        Due.question("off(5)", Due::furnished, y -> y.off(5), 100000);
    }

    static void nextNewTells() {
        JoinedSketches x = new JoinedSketches();
        Due.is("nextNew(0, 0) of an empty one", x.nextNew(0, 0), 0);
        Due.is("nextNew(0, 99999) of an empty one", x.nextNew(0, 99999), 99999);
        for (int from : new int[] {0, 10, 299, 1000, 50000}) {
            JoinedSketches y = new JoinedSketches();
            y.addRange(0, 0, 300);
            int due = from;
            while (y.thing(0, due, 3) == 0) {
                due++;
            }
            Due.is("nextNew(0, " + from + ")", y.nextNew(0, from), due);
            Due.is("nextNew(0, " + due + "), from itself", y.nextNew(0, due), due);
        }
        x.add(1, 7);
        Due.is("nextNew(1, 7): 7 itself would not", x.nextNew(1, 7), 8);
        x.add(2, 99999);
        Due.is("nextNew(2, 99999): none behind the last thing", x.nextNew(2, 99999), Due.NONE);
        Due.is("nextNew(2, 99998)", x.nextNew(2, 99998), 99998);
    }

    static void nextNewOfFullOnes() {
        for (int bits = 2; bits <= 6; bits++) {
            JoinedSketches x = new JoinedSketches();
            x.bits(0, bits);
            int[] ranks = new int[1 << bits];
            java.util.Arrays.fill(ranks, 17 - bits);
            ranks[1] = 16 - bits;
            Due.fill(x, 0, ranks);
            int due = Due.thingFor(Due.FIRST_SALT, bits, 1, 17 - bits, 0);
            Due.is("nextNew(0, 0), one to go", x.nextNew(0, 0), due);
            int later = due + 65536 < 100000 ? due + 65536 : Due.NONE;
            Due.is("nextNew(0, " + (due + 1) + ")", x.nextNew(0, due + 1), later);
            x.add(0, due);
            Due.is("nextNew(0, 0), none to go", x.nextNew(0, 0), Due.NONE);
            Due.is("nextNew(0, 99999), none to go", x.nextNew(0, 99999), Due.NONE);
        }
    }

    static void nextNewErrors() {
        for (int sketch : Due.NO_SKETCHES) {
            Due.error("nextNew(" + sketch + ", 0)", Due::furnished, x -> x.nextNew(sketch, 0), Due.NO_SUCH);
            Due.error("nextNew(" + sketch + ", -1)", Due::furnished, x -> x.nextNew(sketch, -1), Due.NO_SUCH);
        }
        for (int from : new int[] {-1, 100000, Integer.MIN_VALUE, Integer.MAX_VALUE}) {
            Due.error("nextNew(0, " + from + ")", Due::furnished, x -> x.nextNew(0, from), Due.BAD_VALUE);
        }
        Due.question("nextNew(5, 99999)", Due::furnished, x -> x.nextNew(5, 99999), 99999);
    }

    /** How far the estimate would be from many by this SALT, asked of a sketch that is made by it. */
    static int distance(int salt, int bits, int from, int many) {
        JoinedSketches x = new JoinedSketches();
        x.salt(salt);
        x.bits(0, bits);
        x.addRange(0, from, many);
        return Math.abs(x.ofSketch(0, 6) - many);
    }

    static void bestSaltTells() {
        // The nearest of 0 to 256 would be 0, not 1; 1; only 255; only 256, for the last four.
        int[][] streams = {{4, 0, 40}, {2, 600, 35}, {3, 9000, 21}, {5, 77777, 40}, {6, 40, 33}, {2, 10, 9},
            {2, 119, 4}, {2, 118, 4}, {2, 1034, 5}, {2, 1155, 5}};
        for (int[] stream : streams) {
            int due = 0;
            for (int salt = 255; salt >= 0; salt--) {
                if (distance(salt, stream[0], stream[1], stream[2])
                    <= distance(due, stream[0], stream[1], stream[2])) {
                    due = salt;
                }
            }
            JoinedSketches x = new JoinedSketches();
            x.bits(3, stream[0]);
            x.addRange(3, stream[1], stream[2]);
            Due.is("bestSalt(3) of " + java.util.Arrays.toString(stream), x.bestSalt(3), due);
            x.salt(40000);
            x.addRange(3, stream[1], stream[2]);
            Due.is("bestSalt(3) by another SALT", x.bestSalt(3), due);
        }
        JoinedSketches x = new JoinedSketches();
        x.bits(2, 5);
        x.addRange(2, 0, 40);
        x.fold(2);
        Due.is("bestSalt(2) of a folded one", x.bestSalt(2), 44);
    }

    static void bestSaltTakesTheLeast() {
        JoinedSketches x = new JoinedSketches();
        Due.is("bestSalt(0) of an empty one", x.bestSalt(0), 0);
        x.add(0, 4321);
        Due.is("bestSalt(0) of one thing", x.bestSalt(0), 0);
    }

    static void bestSaltErrors() {
        for (int sketch : Due.NO_SKETCHES) {
            Due.error("bestSalt(" + sketch + ")", Due::furnished, x -> x.bestSalt(sketch), Due.NO_SUCH);
        }
        Due.error("bestSalt(1)", Due::furnished, x -> x.bestSalt(1), Due.NOT_POSSIBLE);
        long answer = Due.furnished().bestSalt(3);
        Due.question("bestSalt(3)", Due::furnished, x -> x.bestSalt(3), answer);
    }
}
