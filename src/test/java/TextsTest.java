/** Promises 20 to 23: put, wipe, fault, carryOut. */
final class TextsTest {
    public static void main(String[] args) {
        putAppends();
        putErrors();
        putTooMany();
        wipeEmpties();
        faults();
        faultChangesNothing();
        carryOutDoesAll();
        carryOutStops();
        carryOutRecordsOnce();
        carryOutOfFaults();
        Due.end();
    }

    static void putAppends() {
        JoinedSketches x = new JoinedSketches();
        String text = "0:0,4,12";
        for (int many = 1; many <= 8; many++) {
            x.wipe();
            Due.is("put() of " + many, x.put(Due.packed(text.substring(0, many))), many);
            Due.is("count(4) then", x.count(4), many);
        }
        Due.is("put() of 8 more", x.put(Due.packed(",99999;1")), 16);
        Due.is("put() of 1 more", x.put('!'), 17);
        Due.is("fault() of what was put", x.fault(), Due.NONE);
        Due.is("carryOut() of it", x.carryOut(), 2);
        int[] due = {0, 4, 12, 99999};
        for (int place = 0; place < due.length; place++) {
            Due.is("listed(0, " + place + ")", x.listed(0, place), due[place]);
        }
        Due.is("put(33)", x.put(33), 1);
        Due.is("put(126)", x.put(126), 2);
        Due.is("put() of all 126", x.put(0x7E7E7E7E7E7E7E7EL), 10);
        Due.is("put() is no change", x.count(5), 1);
    }

    static void putErrors() {
        long[] bad = {0, -1, 32, 127, 128, 255, 256, 0x2100L, 0x210021L, 0x2121212121212120L, 0x2021212121212121L,
            0x7F21212121212121L, 0x2121217F21212121L, 0xFF21212121212121L, 0x2100000000000021L, 0x8000000000000000L,
            0x8000000000000021L, 0x0021002121212121L, 0x100000021L, Long.MAX_VALUE, Long.MIN_VALUE};
        for (long characters : bad) {
            Due.error("put(" + characters + ")", Due::furnished, x -> x.put(characters), Due.BAD_VALUE);
            Due.error("put(" + characters + ") into a pad of 80", TextsTest::ofEighty,
                x -> x.put(characters), Due.BAD_VALUE);
        }
    }

    static JoinedSketches ofEighty() {
        return Due.with("0!;".repeat(26) + "5!");
    }

    static void putTooMany() {
        JoinedSketches x = Due.with("0!;".repeat(24));
        Due.is("put() up to 79", x.put(Due.packed("1:12345")), 79);
        JoinedSketches y = Due.with("0!;".repeat(24));
        Due.is("put() up to 80", y.put(Due.packed("1:12,3,4")), 80);
        Due.is("fault() of 80", y.fault(), Due.NONE);
        Due.error("put() of 1 to 80", TextsTest::ofEighty, z -> z.put('1'), Due.TOO_MANY);
        Due.error("put() of 8 to 80", TextsTest::ofEighty, z -> z.put(Due.packed("12345678")), Due.TOO_MANY);
        Due.error("put() of 2 to 79", () -> Due.with("0!;".repeat(26) + "5"), z -> z.put(Due.packed("!;")), Due.TOO_MANY);
        Due.error("put() of 8 to 73", () -> Due.with("0!;".repeat(24) + "5"), z -> z.put(Due.packed("12345678")),
            Due.TOO_MANY);
        Due.is("carryOut() of 80", ofEighty().carryOut(), 27);
    }

    static void wipeEmpties() {
        JoinedSketches x = Due.with("0:1;!!");
        x.add(1, 5);
        Due.is("wipe()", x.wipe(), 6);
        Due.is("count(4) then", x.count(4), 0);
        Due.is("fault() then", x.fault(), 0);
        Due.is("wipe() again", x.wipe(), 0);
        Due.is("wipe() is no change", x.count(5), 1);
        Due.is("put() then", x.put('3'), 1);
        Due.is("its fault()", x.fault(), 1);
    }

    static void faultIs(String text, int due) {
        Due.is("fault() of \"" + text + "\"", Due.with(text).fault(), due);
    }

    static void faults() {
        String[] good = {"0:0", "5:99999", "0:10,2,30000", "0&5", "0&0", "3!", "3/", "2*0+0", "2*99999+99999", "0!;1/;2&3",
            "0:1;0:2", "1*5+1;1:5,6;1!", "0:90000,80000"};
        for (String text : good) {
            faultIs(text, Due.NONE);
        }
        String[] shorts = {"", "0", "0:", "0:1,", "0&", "0*", "0*5", "0*5+", "0!;", "0:1;", "0:1;5", "0/;2*7"};
        for (String text : shorts) {
            faultIs(text, text.length());
        }
        faultIs("6:1", 0);
        faultIs(";", 0);
        faultIs("!", 0);
        faultIs("a", 0);
        faultIs("01", 1);
        faultIs("0;", 1);
        faultIs("0+", 1);
        faultIs("0:a", 2);
        faultIs("0:,1", 2);
        faultIs("0:;", 2);
        faultIs("0:00", 3);
        faultIs("0:01", 3);
        faultIs("0:1,01", 5);
        faultIs("0:1,,", 4);
        faultIs("0:1:2", 3);
        faultIs("0:1+2", 3);
        faultIs("0:1!", 3);
        faultIs("0:100000", 7);
        faultIs("0:999999", 7);
        faultIs("0:99999,123456", 13);
        faultIs("0*100000+1", 7);
        faultIs("0*1+100000", 9);
        faultIs("0*01+1", 3);
        faultIs("0*1+00", 5);
        faultIs("0*1,2", 3);
        faultIs("0*1;", 3);
        faultIs("0*+", 2);
        faultIs("0*1++", 4);
        faultIs("0*1+2+", 5);
        faultIs("0*1+2,3", 5);
        faultIs("0&6", 2);
        faultIs("0&!", 2);
        faultIs("0&11", 3);
        faultIs("0&1,", 3);
        faultIs("0!!", 2);
        faultIs("0!1", 2);
        faultIs("0/,", 2);
        faultIs("0!;;", 3);
        faultIs("0!;6!", 3);
        faultIs("0!;1?", 4);
        faultIs("0:/", 2);
        faultIs("0::", 2);
        faultIs("/!", 0);
        faultIs(":!", 0);
    }

    static void faultChangesNothing() {
        Due.question("fault()", Due::furnished, JoinedSketches::fault, Due.NONE);
        Due.question("fault() of a fault", () -> Due.with("0:1;x"), JoinedSketches::fault, 4);
        JoinedSketches x = Due.with("0:1;");
        Due.is("fault()", x.fault(), 4);
        x.put(Due.packed("1!"));
        Due.is("fault() of more", x.fault(), Due.NONE);
    }

    static void carryOutDoesAll() {
        JoinedSketches x = Due.with("0:7,8,7;1*100+3;0&1;2:50;2!;3:1,2,3,4;3/");
        Due.is("carryOut()", x.carryOut(), 7);
        JoinedSketches y = new JoinedSketches();
        y.add(0, 7);
        y.add(0, 8);
        y.add(0, 7);
        y.addRange(1, 100, 3);
        y.join(0, 1);
        y.add(2, 50);
        y.empty(2);
        y.addRange(3, 1, 4);
        y.fold(3);
        Due.is("contents then", Due.contents(x), Due.contents(y));
        Due.is("pad then", x.count(4), 0);
        Due.is("fault() then", x.fault(), 0);
        JoinedSketches z = Due.with("4*99001+999");
        Due.is("carryOut() of a great range", z.carryOut(), 1);
        Due.is("its list", z.ofSketch(4, 8), Due.NONE);
    }

    static void stops(String text, int due) {
        Due.change("carryOut() of " + text, () -> Due.put(two(), text), JoinedSketches::carryOut, due);
        JoinedSketches x = Due.put(two(), text);
        x.carryOut();
        Due.is("pad after " + text, x.count(4), 0);
        Due.is("list of 5 after " + text, x.ofSketch(5, 8), 0);
    }

    static JoinedSketches two() {
        JoinedSketches x = new JoinedSketches();
        x.bits(1, 2);
        x.add(1, 5);
        return x;
    }

    static void carryOutStops() {
        stops("0&0;5:1", 0);
        stops("0:1;0&1;5:1", 1);
        stops("0&2;1/;5:1", 1);
        stops("0:1;0!;0*5+0;5:1", 2);
        stops("0*5+1000;5:1", 0);
        stops("0*99999+2;5:1", 0);
        stops("0*99001+999;0*99002+999;5:1", 1);
        stops("0/;0/;0/;5:1", 2);
        JoinedSketches x = Due.with("0:9;0/;1:4,3;1&0;2:1");
        Due.is("carryOut()", x.carryOut(), 3);
        Due.is("what came before the stop stands: list of 0", x.listed(0, 0), 9);
        Due.is("BITS of 0", x.ofSketch(0, 0), 3);
        Due.is("list of 1", x.ofSketch(1, 8), 2);
        Due.is("list of 2", x.ofSketch(2, 8), 0);
    }

    static void carryOutRecordsOnce() {
        JoinedSketches x = new JoinedSketches();
        x.add(0, 1);
        Due.put(x, "0:2;1:3;2*5+4;0&1;0/");
        String before = Due.contents(x);
        Due.is("carryOut()", x.carryOut(), 5);
        Due.is("changes to undo", x.count(5), 2);
        Due.is("undo()", x.undo(), 1);
        Due.is("contents then", Due.contents(x), before);
        Due.is("pad stays empty", x.count(4), 0);
        Due.put(x, "0&0");
        Due.is("carryOut() of none", x.carryOut(), 0);
        Due.is("it is a change too", x.count(5), 2);
    }

    static void carryOutOfFaults() {
        Due.error("carryOut() of no text", JoinedSketches::new, JoinedSketches::carryOut, Due.BAD_TEXT);
        for (String text : new String[] {"0:1;", "0:1;6!", "0:01", "x", "0:1;1*4"}) {
            Due.error("carryOut() of " + text, () -> Due.put(two(), text), JoinedSketches::carryOut, Due.BAD_TEXT);
        }
    }
}
