/** Promises 1 to 8: a new object, salt, bits, add, addRange, join, fold, empty. */
final class ChangesTest {
    public static void main(String[] args) {
        newObject();
        objectsAreApart();
        saltAnswers();
        saltEmptiesAll();
        bitsAnswers();
        bitsEmptiesOne();
        addRaisesRanks();
        addLists();
        addErrors();
        addRangeAnswers();
        addRangeErrors();
        joinRanks();
        joinLists();
        joinErrors();
        foldRanks();
        foldLikeFewerBits();
        foldErrors();
        emptyAnswers();
        Due.end();
    }

    static void newObject() {
        JoinedSketches x = new JoinedSketches();
        for (int sketch = 0; sketch < 6; sketch++) {
            Due.is("new: BITS", x.ofSketch(sketch, 0), 4);
            Due.is("new: buckets", x.ofSketch(sketch, 1), 16);
            Due.is("new: empty buckets", x.ofSketch(sketch, 2), 16);
            Due.is("new: things in the list", x.ofSketch(sketch, 8), 0);
        }
        Due.is("new: SALT", x.count(0), 12345);
        for (int what = 1; what <= 5; what++) {
            Due.is("new: count(" + what + ")", x.count(what), 0);
        }
        Due.is("new: fault()", x.fault(), 0);
        Due.is("new: restore(0)", x.restore(0), Due.NOT_POSSIBLE);
        Due.is("new: restore(1)", x.restore(1), Due.NOT_POSSIBLE);
        Due.is("new: undo()", x.undo(), Due.NOT_POSSIBLE);
    }

    static void objectsAreApart() {
        JoinedSketches one = Due.furnished();
        String before = Due.contents(one);
        JoinedSketches other = new JoinedSketches();
        other.salt(1);
        other.add(0, 5);
        other.bits(3, 3);
        other.wipe();
        Due.is("one object after another one changed", Due.contents(one), before);
        Due.is("its pad", one.count(4), 16);
    }

    static void saltAnswers() {
        Due.change("salt(0)", Due::furnished, x -> x.salt(0), 12345);
        Due.change("salt(65535)", Due::furnished, x -> x.salt(65535), 12345);
        Due.change("salt(12345), as it was", Due::furnished, x -> x.salt(12345), 12345);
        for (int salt : new int[] {-1, 65536, Integer.MIN_VALUE, Integer.MAX_VALUE}) {
            Due.error("salt(" + salt + ")", Due::furnished, x -> x.salt(salt), Due.BAD_VALUE);
        }
        JoinedSketches x = new JoinedSketches();
        x.salt(7);
        Due.is("salt(8) after salt(7)", x.salt(8), 7);
        Due.is("SALT after salt(8)", x.count(0), 8);
        Due.is("hash of 0 by SALT 8", x.thing(0, 0, 0), 8);
    }

    static void saltEmptiesAll() {
        for (int salt : new int[] {77, Due.FIRST_SALT}) {
            JoinedSketches x = Due.furnished();
            x.salt(salt);
            Due.is("full buckets after salt()", x.count(2), 0);
            Due.is("full lists after salt()", x.count(3), 0);
            for (int sketch = 0; sketch < 6; sketch++) {
                Due.is("list after salt()", x.ofSketch(sketch, 8), 0);
            }
            Due.is("BITS of 0 after salt()", x.ofSketch(0, 0), 2);
            Due.is("BITS of 3 after salt()", x.ofSketch(3, 0), 6);
            Due.is("pad after salt()", x.count(4), 16);
        }
    }

    static void bitsAnswers() {
        for (int bits = 2; bits <= 6; bits++) {
            int wanted = bits;
            Due.change("bits(0, " + bits + ")", Due::furnished, x -> x.bits(0, wanted), 2);
            Due.change("bits(1, " + bits + ")", Due::furnished, x -> x.bits(1, wanted), 4);
            JoinedSketches x = new JoinedSketches();
            x.bits(5, bits);
            Due.is("BITS then", x.ofSketch(5, 0), bits);
            Due.is("buckets then", x.ofSketch(5, 1), 1L << bits);
        }
        for (int sketch : Due.NO_SKETCHES) {
            Due.error("bits(" + sketch + ", 3)", Due::furnished, x -> x.bits(sketch, 3), Due.NO_SUCH);
            Due.error("bits(" + sketch + ", 1)", Due::furnished, x -> x.bits(sketch, 1), Due.NO_SUCH);
        }
        for (int bits : new int[] {1, 7, 0, -1, Integer.MIN_VALUE, Integer.MAX_VALUE}) {
            Due.error("bits(1, " + bits + ")", Due::furnished, x -> x.bits(1, bits), Due.BAD_VALUE);
        }
    }

    static void bitsEmptiesOne() {
        JoinedSketches x = Due.furnished();
        String other = Due.sketchText(x, 0);
        x.bits(1, 4);
        Due.is("empty buckets after bits() as they were", x.ofSketch(1, 2), 16);
        Due.is("list after bits() as they were", x.ofSketch(1, 8), 0);
        x.bits(3, 2);
        x.bits(3, 6);
        Due.is("empty buckets after bits() twice", x.ofSketch(3, 2), 64);
        Due.is("list after bits() twice", x.ofSketch(3, 8), 0);
        Due.is("another sketch after bits()", Due.sketchText(x, 0), other);
    }

    static void addRaisesRanks() {
        for (int bits = 2; bits <= 6; bits++) {
            JoinedSketches x = new JoinedSketches();
            x.bits(2, bits);
            int bucket = (1 << bits) - 2;
            int low = Due.thingFor(Due.FIRST_SALT, bits, bucket, 1, 0);
            int high = Due.thingFor(Due.FIRST_SALT, bits, bucket, 4, 0);
            int most = Due.thingFor(Due.FIRST_SALT, bits, bucket, 17 - bits, 0);
            Due.is("add of a rank of 4", x.add(2, high), 1);
            Due.is("rank then", x.bucket(2, bucket), 4);
            Due.is("add of it again", x.add(2, high), 0);
            Due.is("add of a lower rank", x.add(2, low), 0);
            Due.is("rank then", x.bucket(2, bucket), 4);
            Due.is("add of the greatest rank", x.add(2, most), 1);
            Due.is("rank then", x.bucket(2, bucket), 17 - bits);
            Due.is("buckets not empty then", x.count(2), 1);
        }
    }

    static void addLists() {
        JoinedSketches x = new JoinedSketches();
        x.add(4, 30);
        x.add(4, 2);
        x.add(4, 30);
        x.add(4, 99999);
        x.add(4, 0);
        Due.is("length of the list", x.ofSketch(4, 8), 4);
        int[] due = {30, 2, 99999, 0};
        for (int place = 0; place < due.length; place++) {
            Due.is("listed(4, " + place + ")", x.listed(4, place), due[place]);
        }
        for (int thing = 101; thing <= 136; thing++) {
            x.add(4, thing);
        }
        Due.is("length of a list of 40", x.ofSketch(4, 8), 40);
        x.add(4, 2);
        Due.is("length after one of the 40 again", x.ofSketch(4, 8), 40);
        x.add(4, 5);
        Due.is("length after one more", x.ofSketch(4, 8), Due.NONE);
        x.add(4, 6);
        Due.is("length after still one more", x.ofSketch(4, 8), Due.NONE);
    }

    static void addErrors() {
        Due.change("add(2, 20), which is there", Due::furnished, x -> x.add(2, 20), 0);
        Due.change("add(5, 0)", Due::furnished, x -> x.add(5, 0), 1);
        Due.change("add(5, 99999)", Due::furnished, x -> x.add(5, 99999), 1);
        for (int sketch : Due.NO_SKETCHES) {
            Due.error("add(" + sketch + ", 0)", Due::furnished, x -> x.add(sketch, 0), Due.NO_SUCH);
            Due.error("add(" + sketch + ", -1)", Due::furnished, x -> x.add(sketch, -1), Due.NO_SUCH);
        }
        for (int thing : new int[] {-1, 100000, Integer.MIN_VALUE, Integer.MAX_VALUE}) {
            Due.error("add(0, " + thing + ")", Due::furnished, x -> x.add(0, thing), Due.BAD_VALUE);
        }
    }

    static void addRangeAnswers() {
        Due.change("addRange(5, 0, 40)", Due::furnished, x -> x.addRange(5, 0, 40), 24);
        Due.change("addRange(2, 20, 3), which are there", Due::furnished, x -> x.addRange(2, 20, 3), 0);
        JoinedSketches x = new JoinedSketches();
        JoinedSketches y = new JoinedSketches();
        int changes = 0;
        for (int thing = 300; thing < 338; thing++) {
            changes += y.add(1, thing);
        }
        Due.is("addRange(1, 300, 38)", x.addRange(1, 300, 38), changes);
        Due.is("contents then", Due.contents(x), Due.contents(y));
        Due.is("changes to undo then", x.count(5), 1);
        Due.is("addRange(1, 99999, 1)", x.addRange(1, 99999, 1), y.add(1, 99999));
        Due.is("addRange(0, 99001, 999) is no error", Math.min(0, x.addRange(0, 99001, 999)), 0);
        Due.is("its list", x.ofSketch(0, 8), Due.NONE);
        x.addRange(2, 5, 40);
        Due.is("list of 40", x.ofSketch(2, 8), 40);
        x.addRange(3, 5, 41);
        Due.is("list of 41", x.ofSketch(3, 8), Due.NONE);
    }

    static void addRangeErrors() {
        for (int sketch : new int[] {-1, 6, Integer.MAX_VALUE}) {
            Due.error("addRange(" + sketch + ", 0, 1)", Due::furnished, x -> x.addRange(sketch, 0, 1), Due.NO_SUCH);
            Due.error("addRange(" + sketch + ", 0, 0)", Due::furnished, x -> x.addRange(sketch, 0, 0), Due.NO_SUCH);
        }
        int[][] bad = {{-1, 1}, {100000, 1}, {0, 0}, {0, -1}, {0, 1000}, {99999, 2}, {99002, 999}, {-5, 10},
            {Integer.MAX_VALUE, Integer.MAX_VALUE}, {Integer.MIN_VALUE, 1}, {99999, Integer.MAX_VALUE},
            {0, Integer.MIN_VALUE}};
        for (int[] pair : bad) {
            Due.error("addRange(0, " + pair[0] + ", " + pair[1] + ")", Due::furnished,
                x -> x.addRange(0, pair[0], pair[1]), Due.BAD_VALUE);
        }
    }

    static JoinedSketches twoToJoin() {
        JoinedSketches x = new JoinedSketches();
        x.bits(0, 2);
        x.bits(1, 2);
        Due.fill(x, 0, 3, 0, 2, 0);
        Due.fill(x, 1, 1, 0, 5, 4);
        return x;
    }

    static void joinRanks() {
        // Ranks 3, 0, 5, 4: S is 8192 + 65536 + 2048 + 4096, the raw estimate 9; by the empty one 4/2 + 4/3 + 4/4.
        Due.change("join(0, 1)", ChangesTest::twoToJoin, x -> x.join(0, 1), 4);
        Due.change("join(1, 0)", ChangesTest::twoToJoin, x -> x.join(1, 0), 4);
        JoinedSketches x = twoToJoin();
        String other = Due.sketchText(x, 1);
        x.join(0, 1);
        Due.is("rank 0", x.bucket(0, 0), 3);
        Due.is("rank 1", x.bucket(0, 1), 0);
        Due.is("rank 2", x.bucket(0, 2), 5);
        Due.is("rank 3", x.bucket(0, 3), 4);
        Due.is("the other one then", Due.sketchText(x, 1), other);
        JoinedSketches y = twoToJoin();
        y.join(1, 0);
        int[] due = {3, 0, 5, 4};
        for (int bucket = 0; bucket < due.length; bucket++) {
            Due.is("rank " + bucket + " the other way", y.bucket(1, bucket), due[bucket]);
        }
        Due.is("join(2, 3) of empty ones", x.join(2, 3), 0);
    }

    static void joinLists() {
        JoinedSketches x = new JoinedSketches();
        x.addRange(0, 10, 3);
        x.add(1, 50);
        x.add(1, 11);
        x.add(1, 9);
        x.join(0, 1);
        int[] due = {10, 11, 12, 50, 9};
        Due.is("length of the joined list", x.ofSketch(0, 8), due.length);
        for (int place = 0; place < due.length; place++) {
            Due.is("listed(0, " + place + ")", x.listed(0, place), due[place]);
        }
        x.addRange(2, 0, 30);
        x.addRange(3, 20, 20);
        x.join(2, 3);
        Due.is("length of a joined list of 40", x.ofSketch(2, 8), 40);
        x.addRange(4, 39, 2);
        x.join(2, 4);
        Due.is("length of one that would have 41", x.ofSketch(2, 8), Due.NONE);
        Due.is("length of the other one's list", x.ofSketch(4, 8), 2);
        x.join(2, 0);
        Due.is("a full one stays full", x.ofSketch(2, 8), Due.NONE);
        x.join(0, 2);
        Due.is("by a full one it is full", x.ofSketch(0, 8), Due.NONE);
        Due.is("and has no things", x.listed(0, 0), Due.NO_SUCH);
        x.join(5, 0);
        Due.is("an empty one too", x.ofSketch(5, 8), Due.NONE);
    }

    static void joinErrors() {
        int[][] none = {{6, 0}, {0, 6}, {-1, 0}, {0, -1}, {6, 6}, {-1, -1}, {Integer.MIN_VALUE, 1},
            {1, Integer.MAX_VALUE}};
        for (int[] pair : none) {
            Due.error("join(" + pair[0] + ", " + pair[1] + ")", Due::furnished,
                x -> x.join(pair[0], pair[1]), Due.NO_SUCH);
        }
        int[][] not = {{0, 0}, {5, 5}, {0, 1}, {1, 0}, {3, 2}};
        for (int[] pair : not) {
            Due.error("join(" + pair[0] + ", " + pair[1] + ")", Due::furnished,
                x -> x.join(pair[0], pair[1]), Due.NOT_POSSIBLE);
        }
    }

    static void foldRanks() {
        JoinedSketches x = new JoinedSketches();
        x.bits(0, 3);
        Due.fill(x, 0, 2, 14, 0, 0, 5, 0, 7, 0);
        Due.is("fold(0)", x.fold(0), 4);
        int[] due = {3, 15, 1, 0};
        for (int bucket = 0; bucket < due.length; bucket++) {
            Due.is("bucket(0, " + bucket + ")", x.bucket(0, bucket), due[bucket]);
        }
        Due.is("bucket(0, 4)", x.bucket(0, 4), Due.NO_SUCH);
        Due.is("BITS then", x.ofSketch(0, 0), 2);
        Due.is("list then", x.ofSketch(0, 8), 4);
        Due.is("buckets not empty then", x.count(2), 3);
    }

    static void foldLikeFewerBits() {
        for (int bits = 6; bits > 2; bits--) {
            JoinedSketches x = new JoinedSketches();
            x.bits(0, bits);
            x.bits(1, bits - 1);
            x.addRange(0, 700, 100);
            x.addRange(1, 700, 100);
            Due.is("fold() from BITS " + bits, x.fold(0), 1L << (bits - 1));
            Due.is("a folded sketch", Due.sketchText(x, 0), Due.sketchText(x, 1));
        }
    }

    static void foldErrors() {
        Due.change("fold(3)", Due::furnished, x -> x.fold(3), 32);
        Due.change("fold(1)", Due::furnished, x -> x.fold(1), 8);
        Due.change("fold(5), empty", Due::furnished, x -> x.fold(5), 8);
        for (int sketch : Due.NO_SKETCHES) {
            Due.error("fold(" + sketch + ")", Due::furnished, x -> x.fold(sketch), Due.NO_SUCH);
        }
        Due.error("fold(0) by BITS 2", Due::furnished, x -> x.fold(0), Due.NOT_POSSIBLE);
    }

    static void emptyAnswers() {
        JoinedSketches x = new JoinedSketches();
        x.bits(0, 3);
        Due.fill(x, 0, 2, 1, 0, 0, 5);
        x.add(1, 7);
        Due.is("empty(0)", x.empty(0), 3);
        Due.is("BITS then", x.ofSketch(0, 0), 3);
        Due.is("empty buckets then", x.ofSketch(0, 2), 8);
        Due.is("list then", x.ofSketch(0, 8), 0);
        Due.is("another sketch then", x.ofSketch(1, 8), 1);
        Due.is("empty(0) again", x.empty(0), 0);
        x.addRange(2, 0, 50);
        x.empty(2);
        Due.is("a full list then", x.ofSketch(2, 8), 0);
        x.add(2, 3);
        Due.is("it goes on", x.ofSketch(2, 8), 1);
        Due.change("empty(5), which is empty", Due::furnished, y -> y.empty(5), 0);
        Due.change("empty(0)", Due::furnished, y -> y.empty(0), 4);
        for (int sketch : Due.NO_SKETCHES) {
            Due.error("empty(" + sketch + ")", Due::furnished, y -> y.empty(sketch), Due.NO_SUCH);
        }
    }
}
