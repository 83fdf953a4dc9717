import java.util.List;

/**
 * Promises 2 to 26 with all edges of all arguments together, each call on an object of its own, beside Model: the
 * answer, and all that there is after it. A call that throws ends the test.
 */
final class ExtremesTest {
    private static final int LEAST = Integer.MIN_VALUE, GREATEST = Integer.MAX_VALUE;
    private static final int[] SKETCHES = {LEAST, -1, 0, 1, 5, 6, GREATEST};
    private static final int[] NUMBERS = {LEAST, LEAST + 1, -65536, -1, 0, 1, 2, 6, 7, 8, 9, 15, 16, 39, 40, 41, 63, 64,
        998, 999, 1000, 65535, 65536, 99001, 99002, 99999, 100000, GREATEST - 1, GREATEST};
    private static final int[] FEW = {LEAST, -1, 0, 1, 3, 4, 999, 1000, 99999, 100000, GREATEST};
    private static final List<String> SETUPS = List.of("", "full", "mixed");
    private static final List<String> PADS = List.of("", "0!", "0!;".repeat(24), "0!;".repeat(24) + "5",
        "0!;".repeat(26) + "5", "0!;".repeat(26) + "5!");

    private final String setup;
    private final JoinedSketches x = new JoinedSketches();
    private final Model model = new Model();

    private ExtremesTest(String setup) {
        this.setup = setup;
        if (setup.equals("full")) {
            for (int sketch : new int[] {0, 5}) {
                Due.is("bits()", x.bits(sketch, 2), model.bits(sketch, 2));
                for (int bucket = 0; bucket < 4; bucket++) {
                    int thing = Due.thingFor(Due.FIRST_SALT, 2, bucket, 15, 0);
                    Due.is("add()", x.add(sketch, thing), model.add(sketch, thing));
                }
                Due.is("addRange()", x.addRange(sketch, 0, 41), model.addRange(sketch, 0, 41));
            }
            Due.is("save(0)", x.save(0), model.save(0));
        }
        if (setup.equals("mixed")) {
            Due.is("bits()", x.bits(1, 6), model.bits(1, 6));
            Due.is("addRange()", x.addRange(1, 99960, 40), model.addRange(1, 99960, 40));
            Due.is("addRange()", x.addRange(0, 0, 39), model.addRange(0, 0, 39));
            Due.is("addRange()", x.addRange(5, 38, 2), model.addRange(5, 38, 2));
            Due.is("save(1)", x.save(1), model.save(1));
            Due.is("salt()", x.salt(65535), model.salt(65535));
            Due.is("undo()", x.undo(), model.undo());
        }
    }

    public static void main(String[] args) {
        for (String setup : SETUPS) {
            oneArgument(setup);
            twoArguments(setup);
            threeArguments(setup);
        }
        characters();
        Due.end();
    }

    private void same(String call, long got, long due) {
        Due.is(setup + ": " + call, got, due);
        Due.is(setup + ": all after " + call, Due.contents(x), model.contents());
        Due.is(setup + ": count(5) after " + call, x.count(5), model.count(5));
        Due.is(setup + ": undo() after " + call, x.undo(), model.undo());
        Due.is(setup + ": count(2) after undo() of " + call, x.count(2), model.count(2));
    }

    private static void oneArgument(String setup) {
        for (int a : NUMBERS) {
            String of = "(" + a + ")";
            for (int call = 0; call < 8; call++) {
                ExtremesTest on = new ExtremesTest(setup);
                switch (call) {
                    case 0: on.same("salt" + of, on.x.salt(a), on.model.salt(a)); break;
                    case 1: on.same("fold" + of, on.x.fold(a), on.model.fold(a)); break;
                    case 2: on.same("empty" + of, on.x.empty(a), on.model.empty(a)); break;
                    case 3: on.same("count" + of, on.x.count(a), on.model.count(a)); break;
                    case 4: on.same("off" + of, on.x.off(a), on.model.off(a)); break;
                    case 5: on.same("bestSalt" + of, on.x.bestSalt(a), on.model.bestSalt(a)); break;
                    case 6: on.same("save" + of, on.x.save(a), on.model.save(a)); break;
                    default: on.same("restore" + of, on.x.restore(a), on.model.restore(a));
                }
            }
        }
    }

    private static void twoArguments(String setup) {
        for (int a : SKETCHES) {
            for (int b : NUMBERS) {
                String of = "(" + a + ", " + b + ")";
                for (int call = 0; call < 9; call++) {
                    ExtremesTest on = new ExtremesTest(setup);
                    switch (call) {
                        case 0: on.same("bits" + of, on.x.bits(a, b), on.model.bits(a, b)); break;
                        case 1: on.same("add" + of, on.x.add(a, b), on.model.add(a, b)); break;
                        case 2: on.same("join" + of, on.x.join(a, b), on.model.join(a, b)); break;
                        case 3: on.same("bucket" + of, on.x.bucket(a, b), on.model.bucket(a, b)); break;
                        case 4: on.same("ofSketch" + of, on.x.ofSketch(a, b), on.model.ofSketch(a, b)); break;
                        case 5: on.same("withRank" + of, on.x.withRank(a, b), on.model.withRank(a, b)); break;
                        case 6: on.same("listed" + of, on.x.listed(a, b), on.model.listed(a, b)); break;
                        case 7: on.same("together" + of, on.x.together(a, b), on.model.together(a, b)); break;
                        default: on.same("alike" + of, on.x.alike(a, b), on.model.alike(a, b));
                    }
                }
                if (!setup.isEmpty()) {
                    ExtremesTest on = new ExtremesTest(setup);
                    on.same("nextNew" + of, on.x.nextNew(a, b), on.model.nextNew(a, b));
                }
            }
        }
    }

    private static void threeArguments(String setup) {
        for (int a : SKETCHES) {
            for (int b : NUMBERS) {
                for (int c : FEW) {
                    String of = "(" + a + ", " + b + ", " + c + ")";
                    ExtremesTest adding = new ExtremesTest(setup);
                    adding.same("addRange" + of, adding.x.addRange(a, b, c), adding.model.addRange(a, b, c));
                    ExtremesTest asking = new ExtremesTest(setup);
                    asking.same("thing" + of, asking.x.thing(a, b, c), asking.model.thing(a, b, c));
                }
            }
        }
    }

    /** Each bit alone, all bits but one, and all codes at the edges in each place, for pads of all lengths near 80. */
    private static void characters() {
        for (String pad : PADS) {
            for (int bit = 0; bit < 64; bit++) {
                putIs(pad, 1L << bit);
                putIs(pad, ~(1L << bit));
                putIs(pad, -1L << bit);
                putIs(pad, -1L >>> bit);
                putIs(pad, 0x3030303030303030L ^ 1L << bit);
                putIs(pad, 0x3030303030303030L >>> bit);
            }
            for (long code : new long[] {0, 1, 32, 33, 48, 126, 127, 128, 255}) {
                for (int place = 0; place < 8; place++) {
                    putIs(pad, code << (8 * place));
                    putIs(pad, 0x3030303030303030L & ~(255L << (8 * place)) | code << (8 * place));
                }
            }
        }
    }

    private static void putIs(String pad, long characters) {
        JoinedSketches x = Due.with(pad);
        Model model = new Model();
        for (int from = 0; from < pad.length(); from += 8) {
            model.put(Due.packed(pad.substring(from, Math.min(pad.length(), from + 8))));
        }
        String call = "put(" + characters + ") to \"" + pad + "\"";
        Due.is(call, x.put(characters), model.put(characters));
        Due.is("count(4) after " + call, x.count(4), model.count(4));
        Due.is("fault() after " + call, x.fault(), model.fault());
        Due.is("carryOut() after " + call, x.carryOut(), model.carryOut());
    }
}
