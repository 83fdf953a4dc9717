/** Promises 1 to 26 in long runs: each run's calls come from its number, and Model answers each of them too. */
final class RandomRunsTest {
    private static final int RUNS = 240;
    private static final int CALLS = 512;
    private static final int MOST_AT_ONCE = 4;
    private static final int[] ODD = {-1, -2, 6, 16, 64, 100000, 65536, Integer.MIN_VALUE, Integer.MAX_VALUE, 99999};

    private long seed;
    private final JoinedSketches x = new JoinedSketches();
    private final Model model = new Model();
    private String waiting = "";
    private int calls = 0;

    private RandomRunsTest(int run) {
        seed = run * 7919L + 17;
    }

    public static void main(String[] args) {
        for (int run = 0; run < RUNS; run++) {
            RandomRunsTest test = new RandomRunsTest(run);
            while (test.calls <= CALLS - MOST_AT_ONCE) {
                test.call("run " + run + ", call " + (test.calls + 1) + ": ");
            }
        }
        Due.end();
    }

    private void same(String call, long got, long due) {
        calls++;
        Due.is(call, got, due);
    }

    private int below(int bound) {
        seed = seed * 6364136223846793005L + 1442695040888963407L;
        return (int) ((seed >>> 33) % bound);
    }

    private int oddOr(int number) {
        return below(25) == 0 ? ODD[below(ODD.length)] : number;
    }

    private int sketch() {
        return oddOr(below(3) == 0 ? below(6) : below(3));
    }

    private int someThing() {
        return oddOr(below(3) == 0 ? below(100000) : below(120));
    }

    private int someMany() {
        return oddOr(below(4) == 0 ? 1 + below(999) : 1 + below(20));
    }

    private void call(String where) {
        int a = sketch();
        int b = sketch();
        int thing = someThing();
        switch (below(42)) {
            case 0: {
                int salt = oddOr(below(2) == 0 ? below(65536) : 12345);
                int kept = below(3) == 0 ? salt : -1;
                same(where + "salt(" + kept + ")", x.salt(kept), model.salt(kept));
                return;
            }
            case 1: case 2: {
                int bits = below(9);
                same(where + "bits(" + a + ", " + bits + ")", x.bits(a, bits), model.bits(a, bits));
                return;
            }
            case 3: case 4: case 5: case 6:
                same(where + "add(" + a + ", " + thing + ")", x.add(a, thing), model.add(a, thing));
                return;
            case 7: case 8: case 9: {
                int many = someMany();
                same(where + "addRange(" + a + ", " + thing + ", " + many + ")",
                    x.addRange(a, thing, many), model.addRange(a, thing, many));
                return;
            }
            case 10: case 11: case 12:
                same(where + "join(" + a + ", " + b + ")", x.join(a, b), model.join(a, b));
                return;
            case 13:
                same(where + "fold(" + a + ")", x.fold(a), model.fold(a));
                return;
            case 14:
                same(where + "empty(" + a + ")", x.empty(a), model.empty(a));
                return;
            default:
                readingCall(where, a, b, thing);
        }
    }

    private void readingCall(String where, int a, int b, int thing) {
        int what = below(10) - 1;
        switch (below(14)) {
            case 0:
                same(where + "thing(" + a + ", " + thing + ", " + what + ")",
                    x.thing(a, thing, what), model.thing(a, thing, what));
                return;
            case 1: {
                int bucket = oddOr(below(66));
                same(where + "bucket(" + a + ", " + bucket + ")", x.bucket(a, bucket), model.bucket(a, bucket));
                return;
            }
            case 2: case 3:
                same(where + "ofSketch(" + a + ", " + what + ")", x.ofSketch(a, what), model.ofSketch(a, what));
                return;
            case 4: {
                int rank = oddOr(below(17));
                same(where + "withRank(" + a + ", " + rank + ")", x.withRank(a, rank), model.withRank(a, rank));
                return;
            }
            case 5: {
                int place = oddOr(below(42));
                same(where + "listed(" + a + ", " + place + ")", x.listed(a, place), model.listed(a, place));
                return;
            }
            case 6:
                same(where + "count(" + what + ")", x.count(what), model.count(what));
                return;
            case 7:
                same(where + "together(" + a + ", " + b + ")", x.together(a, b), model.together(a, b));
                return;
            case 8:
                same(where + "alike(" + a + ", " + b + ")", x.alike(a, b), model.alike(a, b));
                return;
            case 9:
                same(where + "off(" + a + ")", x.off(a), model.off(a));
                return;
            default:
                rareCall(where, a, thing);
        }
    }

    private void rareCall(String where, int a, int thing) {
        int slot = oddOr(below(2));
        switch (below(10)) {
            case 0:
                same(where + "nextNew(" + a + ", " + thing + ")", x.nextNew(a, thing), model.nextNew(a, thing));
                return;
            case 1:
                if (below(4) == 0) {
                    same(where + "bestSalt(" + a + ")", x.bestSalt(a), model.bestSalt(a));
                }
                return;
            case 2: case 3: case 4:
                someText(where);
                return;
            case 5:
                same(where + "fault()", x.fault(), model.fault());
                return;
            case 6:
                same(where + "carryOut()", x.carryOut(), model.carryOut());
                return;
            case 7:
                same(where + "undo()", x.undo(), model.undo());
                return;
            case 8:
                same(where + "save(" + slot + ")", x.save(slot), model.save(slot));
                return;
            default:
                same(where + "restore(" + slot + ")", x.restore(slot), model.restore(slot));
        }
    }

    /** Puts some characters of a text that is mostly right, and mostly carries it out as soon as it is whole. */
    private void someText(String where) {
        if (waiting.isEmpty() || below(12) == 0) {
            waiting = orders();
            same(where + "wipe()", x.wipe(), model.wipe());
        }
        int many = 1 + below(8);
        String part = waiting.substring(0, Math.min(many, waiting.length()));
        waiting = waiting.substring(part.length());
        long characters = below(15) == 0 ? seed : Due.packed(part);
        same(where + "put(" + characters + ")", x.put(characters), model.put(characters));
        same(where + "fault()", x.fault(), model.fault());
        if (waiting.isEmpty() && below(4) > 0) {
            same(where + "carryOut()", x.carryOut(), model.carryOut());
        }
    }

    private String orders() {
        StringBuilder text = new StringBuilder(order());
        for (int more = below(5); more > 0; more--) {
            text.append(';').append(order());
        }
        if (below(3) == 0) {
            String signs = "0123456789:;,&!*+/x~";
            text.setCharAt(below(text.length()), signs.charAt(below(signs.length())));
        }
        return text.toString();
    }

    private String order() {
        int sketch = below(6);
        switch (below(6)) {
            case 0: return sketch + ":" + number();
            case 1: return sketch + ":" + number() + "," + number() + "," + number();
            case 2: return sketch + "&" + below(6);
            case 3: return sketch + "!";
            case 4: return sketch + "*" + number() + "+" + below(1100);
            default: return sketch + "/";
        }
    }

    private String number() {
        switch (below(6)) {
            case 0: return "" + below(100000);
            case 1: return "99999";
            case 2: return "0";
            case 3: return "" + below(130000);
            default: return "" + below(200);
        }
    }
}
