import java.util.function.Supplier;
import java.util.function.ToLongFunction;

/** What the tests share: answers that are due, a reading of an object's whole state, and things made to measure. */
final class Due {
    static final int NO_SUCH = -1, BAD_VALUE = -2, BAD_TEXT = -3, TOO_MANY = -4, NOT_POSSIBLE = -5, NONE = -6;
    static final int FIRST_SALT = 12345;

    private static int wrong = 0;

    private Due() {
    }

    static void is(String call, long got, long due) {
        if (got != due) {
            wrong++;
            System.out.println(call + " answered " + got + ", due is " + due);
        }
    }

    static void is(String call, String got, String due) {
        if (!got.equals(due)) {
            wrong++;
            System.out.println(call + " answered\n  " + got + "\ndue is\n  " + due);
        }
    }

    static void end() {
        System.out.println(wrong == 0 ? "all answers are as due" : wrong + " answers are not as due");
        if (wrong != 0) {
            System.exit(1);
        }
    }

    /** The call answers an error, and an object where it was made answers all else as one where it was not. */
    static void error(String name, Supplier<JoinedSketches> setup, ToLongFunction<JoinedSketches> call, long due) {
        JoinedSketches x = setup.get();
        is(name, call.applyAsLong(x), due);
        is("what there is after " + name, everything(x), everything(setup.get()));
    }

    /** The call answers what is due, and changes nothing, not even the history. */
    static void question(String name, Supplier<JoinedSketches> setup, ToLongFunction<JoinedSketches> call, long due) {
        error(name, setup, call, due);
    }

    /** The call answers what is due and is a change: it records one state, and undo() brings all back. */
    static void change(String name, Supplier<JoinedSketches> setup, ToLongFunction<JoinedSketches> call, long due) {
        JoinedSketches x = setup.get();
        String before = contents(x);
        int undos = x.count(5);
        is(name, call.applyAsLong(x), due);
        is("changes to undo after " + name, x.count(5), Math.min(6, undos + 1));
        is("undo() of " + name, x.undo(), Math.min(5, undos));
        is("what there is after undo() of " + name, contents(x), before);
    }

    /** All that undo() brings back, as far as the reading calls tell it. */
    static String contents(JoinedSketches x) {
        StringBuilder text = new StringBuilder();
        for (int what = 0; what <= 3; what++) {
            text.append(x.count(what)).append(' ');
        }
        for (int sketch = 0; sketch < 6; sketch++) {
            text.append("| ").append(sketchText(x, sketch));
        }
        return text.toString();
    }

    static String sketchText(JoinedSketches x, int sketch) {
        StringBuilder text = new StringBuilder();
        text.append(x.ofSketch(sketch, 0)).append(" ranks");
        for (int bucket = 0; bucket < x.ofSketch(sketch, 1); bucket++) {
            text.append(' ').append(x.bucket(sketch, bucket));
        }
        text.append(" list ").append(x.ofSketch(sketch, 8)).append(':');
        for (int place = 0; place < x.ofSketch(sketch, 8); place++) {
            text.append(' ').append(x.listed(sketch, place));
        }
        return text.append(' ').toString();
    }

    /** Contents, pad, slots and history; the object is spent by it. */
    static String everything(JoinedSketches x) {
        StringBuilder text = new StringBuilder(contents(x));
        text.append("pad ").append(x.count(4)).append(' ').append(x.fault());
        text.append(" history ").append(x.count(5)).append(" steps");
        for (int steps = 0; steps < 7; steps++) {
            text.append(' ').append(x.undo()).append(' ').append(x.count(0)).append(' ').append(x.count(2));
        }
        text.append(" slots ").append(x.restore(0)).append(' ').append(x.count(0));
        text.append(' ').append(x.restore(1)).append(' ').append(x.count(0));
        text.append(" orders ").append(x.carryOut()).append(' ').append(x.count(2));
        return text.toString();
    }

    static JoinedSketches put(JoinedSketches x, String text) {
        for (int from = 0; from < text.length(); from += 8) {
            x.put(packed(text.substring(from, Math.min(text.length(), from + 8))));
        }
        return x;
    }

    static long packed(String characters) {
        long number = 0;
        for (char c : characters.toCharArray()) {
            number = number * 256 + c;
        }
        return number;
    }

    static int hash(int thing, int salt) {
        long h = (thing * 40503L + salt) % 65536;
        return (int) (h ^ (h / 256));
    }

    /** The least thing from one on that has a bucket and a rank, found by the words of the document alone. */
    static int thingFor(int salt, int bits, int bucket, int rank, int from) {
        int buckets = (int) Math.pow(2, bits);
        for (int thing = from; thing < 100000; thing++) {
            int hash = hash(thing, salt);
            if (hash % buckets == bucket && rankOfLeft(hash / buckets, bits) == rank) {
                return thing;
            }
        }
        throw new IllegalStateException("no thing for bucket " + bucket + " and rank " + rank);
    }

    static int rankOfLeft(int left, int bits) {
        if (left == 0) {
            return 17 - bits;
        }
        String digits = Integer.toBinaryString(left);
        return digits.length() - digits.lastIndexOf('1');
    }

    /** A thing for each rank comes into the sketch, so that an empty one has these ranks then. */
    static void fill(JoinedSketches x, int sketch, int... ranks) {
        int bits = x.ofSketch(sketch, 0);
        for (int bucket = 0; bucket < ranks.length; bucket++) {
            if (ranks[bucket] > 0) {
                x.add(sketch, thingFor(x.count(0), bits, bucket, ranks[bucket], 0));
            }
        }
    }

    /** An object with something in most of its parts. */
    static JoinedSketches furnished() {
        JoinedSketches x = new JoinedSketches();
        x.bits(0, 2);
        x.addRange(0, 500, 7);
        x.save(1);
        x.addRange(1, 0, 41);
        x.addRange(2, 20, 3);
        x.bits(3, 6);
        x.addRange(3, 99000, 12);
        put(x, "4:17,3;4/;0&4;1!");
        return x;
    }
}
