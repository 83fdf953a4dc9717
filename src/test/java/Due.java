import java.util.Arrays;
import java.util.HashMap;
import java.util.List;
import java.util.Map;
import java.util.function.Supplier;
import java.util.function.ToLongFunction;

/** What the tests share: answers that are due, a reading of an object's whole state, and things made to measure. */
final class Due {
    static final int NO_SUCH = -1, BAD_VALUE = -2, BAD_TEXT = -3, TOO_MANY = -4, NOT_POSSIBLE = -5, NONE = -6;
    static final int FIRST_SALT = 12345;
    static final int[] NO_SKETCHES = {-1, 6, Integer.MIN_VALUE, Integer.MAX_VALUE};
    private static final int VIEWS = 10;
    private static final Map<List<Integer>, Integer> FOUND = new HashMap<>();

    private static int wrong = 0;
    private static String sentence = "";

    private Due() {
    }

    /** What is checked from here on stands under a sentence of the document. */
    static void sentence(String words) {
        sentence = "[" + words + "] ";
    }

    static void is(String call, long got, long due) {
        if (got != due) {
            wrong++;
            System.out.println(sentence + call + " answered " + got + ", due is " + due);
        }
    }

    static void is(String call, String got, String due) {
        if (!got.equals(due)) {
            wrong++;
            System.out.println(sentence + call + " answered\n  " + got + "\ndue is\n  " + due);
        }
    }

    static void end() {
        System.out.println(wrong == 0 ? "all answers are as due" : wrong + " answers are not as due");
        if (wrong != 0) {
            System.exit(1);
        }
    }

    /** The call answers an error, and an object where it was made shows all else as one where it was not. */
    static void error(String name, Supplier<JoinedSketches> setup, ToLongFunction<JoinedSketches> call, long due) {
        is(name, call.applyAsLong(setup.get()), due);
        for (int view = 0; view < VIEWS; view++) {
            JoinedSketches x = setup.get();
            call.applyAsLong(x);
            is("view " + view + " after " + name, viewed(x, view), viewed(setup.get(), view));
        }
    }

    /** The call answers what is due, and changes nothing, not even the history. */
    static void question(String name, Supplier<JoinedSketches> setup, ToLongFunction<JoinedSketches> call, long due) {
        error(name, setup, call, due);
    }

    /** The call answers what is due and is a change: it records one state, and undo() brings all back. */
    static void change(String name, Supplier<JoinedSketches> setup, ToLongFunction<JoinedSketches> call, long due) {
        JoinedSketches x = setup.get();
        String before = contents(x);
        int undos = x.count(5);
        is(name, call.applyAsLong(x), due);
        is("changes to undo after " + name, x.count(5), Math.min(6, undos + 1));
        is("undo() of " + name, x.undo(), Math.min(5, undos));
        is("what there is after undo() of " + name, contents(x), before);
    }

    /** All that undo() brings back, as far as the reading calls tell it. */
    static String contents(JoinedSketches x) {
        StringBuilder text = new StringBuilder();
        for (int what = 0; what <= 3; what++) {
            text.append(x.count(what)).append(' ');
        }
        for (int sketch = 0; sketch < 6; sketch++) {
            text.append("| ").append(sketchText(x, sketch));
        }
        return text.toString();
    }

    static String sketchText(JoinedSketches x, int sketch) {
        StringBuilder text = new StringBuilder();
        text.append(x.ofSketch(sketch, 0)).append(" ranks");
        for (int rank = 0; rank <= 15; rank++) {
            text.append(' ').append(Long.toHexString(x.withRank(sketch, rank)));
        }
        int listed = x.ofSketch(sketch, 8);
        text.append(" list ").append(listed).append(':');
        for (int place = 0; place < listed; place++) {
            text.append(' ').append(x.listed(sketch, place));
        }
        return text.append(' ').toString();
    }

    /**
     * One of the views of all that an object holds: the contents after 0 to 6 times undo(), the slots, the pad's text.
     * Each is taken of an object of its own, as an object is good for 512 calls.
     */
    static String viewed(JoinedSketches x, int view) {
        String seen = "pad " + x.count(4) + ", fault " + x.fault() + ", to undo " + x.count(5) + ", then ";
        if (view <= 6) {
            for (int steps = 0; steps < view; steps++) {
                seen += x.undo() + " ";
            }
        } else if (view <= 8) {
            seen += x.restore(view - 7) + " ";
        } else {
            seen += x.carryOut() + " ";
        }
        return seen + contents(x);
    }

    static JoinedSketches put(JoinedSketches x, String text) {
        for (int from = 0; from < text.length(); from += 8) {
            x.put(packed(text.substring(from, Math.min(text.length(), from + 8))));
        }
        return x;
    }

    static long packed(String characters) {
        long number = 0;
        for (char c : characters.toCharArray()) {
            number = number * 256 + c;
        }
        return number;
    }

    static int hash(int thing, int salt) {
        long h = (thing * 40503L + salt) % 65536;
        return (int) (h ^ (h / 256));
    }

    /** The least thing from one on that has a bucket and a rank, found by the words of the document alone. */
    static int thingFor(int salt, int bits, int bucket, int rank, int from) {
        return FOUND.computeIfAbsent(List.of(salt, bits, bucket, rank, from),
            key -> searchThing(salt, bits, bucket, rank, from));
    }

    private static int searchThing(int salt, int bits, int bucket, int rank, int from) {
        int buckets = (int) Math.pow(2, bits);
        for (int thing = from; thing < 100000; thing++) {
            int hash = hash(thing, salt);
            if (hash % buckets == bucket && rankOfLeft(hash / buckets, bits) == rank) {
                return thing;
            }
        }
        throw new IllegalStateException("no thing for bucket " + bucket + " and rank " + rank);
    }

    static int rankOfLeft(int left, int bits) {
        if (left == 0) {
            return 17 - bits;
        }
        String digits = Integer.toBinaryString(left);
        return digits.length() - digits.lastIndexOf('1');
    }

    /** A thing for each rank comes into the sketch, so that an empty one has these ranks then. */
    static void fill(JoinedSketches x, int sketch, int... ranks) {
        int bits = x.ofSketch(sketch, 0);
        for (int bucket = 0; bucket < ranks.length; bucket++) {
            if (ranks[bucket] > 0) {
                x.add(sketch, thingFor(x.count(0), bits, bucket, ranks[bucket], 0));
            }
        }
    }

    /** A new object whose sketch 0 has these BITS and ranks. */
    static JoinedSketches ranked(int bits, int... ranks) {
        JoinedSketches x = new JoinedSketches();
        x.bits(0, bits);
        fill(x, 0, ranks);
        return x;
    }

    /** Pairs of how many and a rank, written out one behind the other. */
    static int[] ranks(int... pairs) {
        int[] ranks = new int[0];
        for (int pair = 0; pair + 1 < pairs.length; pair += 2) {
            int from = ranks.length;
            ranks = Arrays.copyOf(ranks, from + pairs[pair]);
            Arrays.fill(ranks, from, ranks.length, pairs[pair + 1]);
        }
        return ranks;
    }

    /** A new object whose sketch 0 has a list of the things 0 to many - 1, and ranks by them. */
    static JoinedSketches ofMany(int many) {
        JoinedSketches x = new JoinedSketches();
        for (int from = 0; from < many; from += 999) {
            x.addRange(0, from, Math.min(999, many - from));
        }
        return x;
    }

    static JoinedSketches with(String text) {
        return put(new JoinedSketches(), text);
    }

    /** An object with something in most of its parts. */
    static JoinedSketches furnished() {
        JoinedSketches x = new JoinedSketches();
        x.bits(0, 2);
        x.addRange(0, 500, 7);
        x.save(1);
        x.addRange(1, 0, 41);
        x.addRange(2, 20, 3);
        x.bits(3, 6);
        x.addRange(3, 99000, 12);
        put(x, "4:17,3;4/;0&4;1!");
        return x;
    }
}
