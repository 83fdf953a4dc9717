import java.util.Set;

/** The edges that the texts' part of "Terms" and promises 20 to 23 name: a test for each sentence that names one. */
final class BoundsOfTextsTest {
    private static final String DIGITS = "0123456789";
    private static final String EIGHTY = "0!;".repeat(26) + "5!";

    public static void main(String[] args) {
        padOf80();
        charactersThatCanStand();
        sketchIs0To5();
        numberIs0To99999();
        withoutLeadingZeros();
        digitAbove99999();
        textEndsTooEarly();
        ordersDoAsTheCalls();
        putAppends1To8();
        putOfNoCharacter();
        putOfOtherCodes();
        putAboveZeroBits();
        putOfTooMany();
        wipeTellsTheLength();
        faultIsNoneIfThereIsNone();
        carryOutOfAFault();
        carryOutUpToAnError();
        carryOutEmptiesThePad();
        carryOutIsOneChange();
        Due.end();
    }

    static void padOf80() {
        Due.sentence("The pad is a text of at most 80 characters");
        String text = "0:0" + ",0".repeat(38) + "!";
        JoinedSketches x = Due.with(text);
        Due.is("count(4) of 80", x.count(4), 80);
        Due.is("fault() at the last of 80", x.fault(), 79);
        JoinedSketches y = Due.with("0:" + "1,".repeat(38) + "12");
        Due.is("fault() of 80 that are good", y.fault(), Due.NONE);
        Due.is("carryOut() of them", y.carryOut(), 1);
        Due.is("listed(0, 1)", y.listed(0, 1), 12);
        JoinedSketches z = Due.with("1:" + "1,".repeat(39));
        Due.is("fault() of 80 that end too early", z.fault(), 80);
        JoinedSketches most = Due.with(EIGHTY);
        Due.is("carryOut() of 27 orders", most.carryOut(), 27);
    }

    /** Behind a start of a text: these characters can stand there, and no other one. */
    static void behind(String start, String allowed) {
        for (char sign = 33; sign <= 126; sign++) {
            int fault = Due.with(start + sign).fault();
            if (allowed.indexOf(sign) < 0) {
                Due.is("fault() of " + start + sign, fault, start.length());
            } else {
                Due.is("whether fault() of " + start + sign + " comes later",
                    fault == Due.NONE || fault == start.length() + 1 ? 1 : 0, 1);
            }
        }
    }

    static void charactersThatCanStand() {
        Due.sentence("The fault is the index of the first character that cannot stand at its place when the text is "
            + "read from left to right");
        for (String before : new String[] {"", "3!;", "0:7,8;1&2;4*1+1;5/;"}) {
            behind(before, "012345");
            behind(before + "0", ":&!*/");
            behind(before + "5", ":&!*/");
            behind(before + "0:", DIGITS);
            behind(before + "0:0", ",;");
            behind(before + "0:1", DIGITS + ",;");
            behind(before + "0:1234", DIGITS + ",;");
            behind(before + "0:12345", ",;");
            behind(before + "0:12345,", DIGITS);
            behind(before + "0:12345,0", ",;");
            behind(before + "0:12345,67", DIGITS + ",;");
            behind(before + "0:12345,67890", ",;");
            behind(before + "1&", "012345");
            behind(before + "1&2", ";");
            behind(before + "2!", ";");
            behind(before + "3/", ";");
            behind(before + "4*", DIGITS);
            behind(before + "4*0", "+");
            behind(before + "4*9", DIGITS + "+");
            behind(before + "4*99999", "+");
            behind(before + "4*0+", DIGITS);
            behind(before + "4*0+0", ";");
            behind(before + "4*0+9", DIGITS + ";");
            behind(before + "4*0+99999", ";");
        }
    }

    static void faultIs(String text, int due) {
        Due.is("fault() of \"" + text + "\"", Due.with(text).fault(), due);
    }

    static void sketchIs0To5() {
        Due.sentence("A sketch is 0 to 5");
        for (int sketch = 0; sketch <= 9; sketch++) {
            int isNone = sketch > 5 ? 1 : 0;
            faultIs(sketch + "!", isNone == 1 ? 0 : Due.NONE);
            faultIs("2!;" + sketch + "/", isNone == 1 ? 3 : Due.NONE);
            faultIs("2&" + sketch, isNone == 1 ? 2 : Due.NONE);
            faultIs(sketch + ":1", isNone == 1 ? 0 : Due.NONE);
            faultIs(sketch + "*1+1", isNone == 1 ? 0 : Due.NONE);
        }
        faultIs("00!", 1);
        faultIs("0&00", 3);
        faultIs("10!", 1);
        faultIs("-1!", 0);
        faultIs("/!", 0);
        faultIs(":!", 0);
    }

    static void numberIs0To99999() {
        Due.sentence("a number 0 to 99999");
        for (String number : new String[] {"0", "1", "9", "10", "99", "100", "999", "1000", "9999", "10000", "99999"}) {
            faultIs("0:" + number, Due.NONE);
            faultIs("0:3," + number, Due.NONE);
            faultIs("0*" + number + "+1", Due.NONE);
            faultIs("0*1+" + number, Due.NONE);
            JoinedSketches x = Due.with("0:" + number + ";1*" + number + "+1");
            Due.is("carryOut() of it", x.carryOut(), 2);
            Due.is("listed(0, 0) by it", x.listed(0, 0), Integer.parseInt(number));
            Due.is("listed(1, 0) by it", x.listed(1, 0), Integer.parseInt(number));
        }
    }

    static void withoutLeadingZeros() {
        Due.sentence("without leading zeros");
        for (String start : new String[] {"0:", "0:5,", "0*", "0*5+", "3!;1:"}) {
            faultIs(start + "00", start.length() + 1);
            faultIs(start + "01", start.length() + 1);
            faultIs(start + "000000", start.length() + 1);
            faultIs(start + "099999", start.length() + 1);
        }
        faultIs("0:10", Due.NONE);
        faultIs("0:10000", Due.NONE);
    }

    static void digitAbove99999() {
        Due.sentence("(also of a digit by which a number would be above 99999)");
        for (String start : new String[] {"0:", "0:5,", "0*", "0*5+", "3!;1:"}) {
            faultIs(start + "100000", start.length() + 5);
            faultIs(start + "999999", start.length() + 5);
            faultIs(start + "999990", start.length() + 5);
            faultIs(start + "4294967297", start.length() + 5);
            faultIs(start + "1" + "0".repeat(40), start.length() + 5);
            faultIs(start + "100000;;", start.length() + 5);
        }
    }

    static void textEndsTooEarly() {
        Due.sentence("if there is none and the text ends too early (also if it is empty), it is the length of the "
            + "text");
        faultIs("", 0);
        String text = "0:1,23;4&5;3!;2*67+89;1/";
        Set<Integer> whole = Set.of(3, 5, 6, 10, 13, 20, 21, 24);
        for (int length = 1; length <= text.length(); length++) {
            faultIs(text.substring(0, length), whole.contains(length) ? Due.NONE : length);
        }
        JoinedSketches x = Due.with("0!");
        x.wipe();
        Due.is("fault() after wipe()", x.fault(), 0);
        JoinedSketches y = Due.with("0!");
        y.carryOut();
        Due.is("fault() after carryOut()", y.fault(), 0);
    }

    static void ordersDoAsTheCalls() {
        Due.sentence("\":\": add() things, one after the other; \"&\": join(); \"!\": empty(); \"*\": addRange(); "
            + "\"/\": fold()");
        JoinedSketches x = Due.with("0:0,99999,0;5*99999+1;1*0+999;2*7+40;3*7+41;2/;4/;5!");
        Due.is("carryOut()", x.carryOut(), 8);
        JoinedSketches y = new JoinedSketches();
        y.add(0, 0);
        y.add(0, 99999);
        y.addRange(1, 0, 999);
        y.addRange(2, 7, 40);
        y.addRange(3, 7, 41);
        y.fold(2);
        y.fold(4);
        Due.is("all then", Due.contents(x), Due.contents(y));
        Due.put(x, "0&1;5&0;0&3;3*0+1;2/;3/;3/");
        Due.is("carryOut() of joins and folds", x.carryOut(), 7);
        y.join(0, 1);
        y.join(5, 0);
        y.join(0, 3);
        y.add(3, 0);
        y.fold(2);
        y.fold(3);
        y.fold(3);
        Due.is("all then", Due.contents(x), Due.contents(y));
        Due.is("its list of 5", x.ofSketch(5, 8), Due.NONE);
    }

    static void putAppends1To8() {
        Due.sentence("20: characters: 1 to 8 characters; its lowest 8 bits are the last character, the next 8 bits "
            + "the one before, and so on; returns the length of the pad then");
        String text = "0:1,2345";
        for (int many = 1; many <= 8; many++) {
            JoinedSketches x = new JoinedSketches();
            Due.is("put() of " + many, x.put(Due.packed(text.substring(0, many))), many);
            Due.is("count(4)", x.count(4), many);
            if (many == 5 || many == 8) {
                x.carryOut();
                Due.is("listed(0, 0)", x.listed(0, 0), 1);
                Due.is("listed(0, 1)", x.listed(0, 1), many == 5 ? 2 : 2345);
            }
        }
        JoinedSketches x = new JoinedSketches();
        Due.is("put() of \"0!\"", x.put('0' * 256 + '!'), 2);
        Due.is("fault() of it", x.fault(), Due.NONE);
        JoinedSketches y = new JoinedSketches();
        Due.is("put() of \"!0\"", y.put('!' * 256 + '0'), 2);
        Due.is("fault() of it", y.fault(), 0);
        Due.is("put() is no change", y.count(5), 0);
    }

    static void putOfNoCharacter() {
        Due.sentence("20: BAD_VALUE if there is no character");
        Due.error("put(0)", Due::furnished, x -> x.put(0), Due.BAD_VALUE);
        Due.error("put(0) into an empty pad", JoinedSketches::new, x -> x.put(0), Due.BAD_VALUE);
        Due.error("put(0) into a pad of 80", () -> Due.with(EIGHTY), x -> x.put(0), Due.BAD_VALUE);
    }

    static void putOfOtherCodes() {
        Due.sentence("20: BAD_VALUE if a code is not 33 to 126");
        for (int many = 1; many <= 8; many++) {
            long others = Due.packed("a".repeat(many));
            for (int place = 0; place < many; place++) {
                long without = others - ((long) 'a' << (8 * place));
                for (int code = 1; code <= 255; code++) {
                    int due = code >= 33 && code <= 126 ? many : Due.BAD_VALUE;
                    JoinedSketches x = new JoinedSketches();
                    Due.is("put() of " + code + " at place " + place + " of " + many,
                        x.put(without + ((long) code << (8 * place))), due);
                    Due.is("count(4) then", x.count(4), Math.max(due, 0));
                }
            }
        }
        for (long bad : new long[] {32, 127, 128, 255, 0x8000000000000000L, Long.MAX_VALUE, Long.MIN_VALUE, -1}) {
            Due.error("put(" + bad + ")", Due::furnished, x -> x.put(bad), Due.BAD_VALUE);
        }
        Due.is("put() of 8 of the least code", new JoinedSketches().put(0x2121212121212121L), 8);
        Due.is("put() of 8 of the greatest code", new JoinedSketches().put(0x7E7E7E7E7E7E7E7EL), 8);
    }

    static void putAboveZeroBits() {
        Due.sentence("20: 8 bits that are 0 mean that there are no more characters, and everything above them has to "
            + "be 0, too; BAD_VALUE if a bit above 8 bits that are 0 is not 0");
        for (int zeros = 0; zeros < 8; zeros++) {
            long below = zeros == 0 ? 0 : Due.packed("a".repeat(zeros));
            Due.is("put() of " + zeros + " below zeros", new JoinedSketches().put(below),
                zeros == 0 ? Due.BAD_VALUE : zeros);
            for (int bit = 8 * zeros + 8; bit < 64; bit++) {
                long characters = below | 1L << bit;
                Due.is("put(" + characters + ")", new JoinedSketches().put(characters), Due.BAD_VALUE);
            }
        }
        Due.error("put() of \"a\", nothing, \"a\"", Due::furnished, x -> x.put(0x610061L), Due.BAD_VALUE);
        Due.error("put() of nothing below \"a\"", Due::furnished, x -> x.put(0x6100L), Due.BAD_VALUE);
        Due.error("put() of the highest bit above", Due::furnished, x -> x.put(Long.MIN_VALUE + 'a'), Due.BAD_VALUE);
    }

    static void putOfTooMany() {
        Due.sentence("20: TOO_MANY if the pad would be longer than 80");
        for (int length = 72; length <= 80; length++) {
            String pad = EIGHTY.substring(0, length);
            for (int many = 1; many <= 8; many++) {
                long characters = Due.packed("12345678".substring(0, many));
                String call = "put() of " + many + " to " + length;
                if (length + many > 80) {
                    Due.error(call, () -> Due.with(pad), x -> x.put(characters), Due.TOO_MANY);
                } else {
                    Due.is(call, Due.with(pad).put(characters), length + many);
                }
            }
            Due.error("put() of a bad one to " + length, () -> Due.with(pad), x -> x.put(' '), Due.BAD_VALUE);
        }
        JoinedSketches x = Due.with(EIGHTY);
        x.wipe();
        Due.is("put() after wipe()", x.put('1'), 1);
        JoinedSketches y = Due.with(EIGHTY);
        y.carryOut();
        Due.is("put() after carryOut()", y.put('1'), 1);
    }

    static void wipeTellsTheLength() {
        Due.sentence("21: Empties the pad, and returns the length that it had");
        for (int length : new int[] {0, 1, 8, 79, 80}) {
            JoinedSketches x = Due.with(EIGHTY.substring(0, length));
            Due.is("wipe() of " + length, x.wipe(), length);
            Due.is("count(4) then", x.count(4), 0);
            Due.is("fault() then", x.fault(), 0);
            Due.is("wipe() again", x.wipe(), 0);
            Due.is("count(5): it is no change", x.count(5), 0);
        }
        JoinedSketches y = Due.furnished();
        y.wipe();
        Due.is("all but the pad after wipe()", Due.contents(y), Due.contents(Due.furnished()));
        Due.is("count(5) after wipe()", y.count(5), 6);
    }

    static void faultIsNoneIfThereIsNone() {
        Due.sentence("22: Returns the fault of the pad, NONE if there is none");
        Due.question("fault() of \"0!\"", () -> Due.with("0!"), JoinedSketches::fault, Due.NONE);
        Due.question("fault() of \"0&0\", which cannot be carried out", () -> Due.with("0&0"), JoinedSketches::fault,
            Due.NONE);
        Due.question("fault() of \"0*99999+99999\"", () -> Due.with("0*99999+99999"), JoinedSketches::fault, Due.NONE);
        Due.question("fault() of an empty pad", JoinedSketches::new, JoinedSketches::fault, 0);
        Due.question("fault() of 80", () -> Due.with(EIGHTY), JoinedSketches::fault, Due.NONE);
        Due.question("fault() of 79", () -> Due.with(EIGHTY.substring(0, 79)), JoinedSketches::fault, 79);
        Due.question("fault() of 78", () -> Due.with(EIGHTY.substring(0, 78)), JoinedSketches::fault, 78);
        Due.question("fault() of 77", () -> Due.with(EIGHTY.substring(0, 77)), JoinedSketches::fault, Due.NONE);
    }

    static void carryOutOfAFault() {
        Due.sentence("23: BAD_TEXT if the pad has a fault (then it stays)");
        Due.error("carryOut() of an empty pad", JoinedSketches::new, JoinedSketches::carryOut, Due.BAD_TEXT);
        for (String text : new String[] {"6!", "0:1;", "0:1;1", "0:1;2:01", "0:1;2:100000", EIGHTY.substring(0, 79)}) {
            Due.error("carryOut() of \"" + text + "\"", () -> Due.with(text), JoinedSketches::carryOut, Due.BAD_TEXT);
            JoinedSketches x = Due.with(text);
            x.carryOut();
            Due.is("count(4) then", x.count(4), text.length());
            Due.is("count(2) then", x.count(2), 0);
        }
        JoinedSketches x = Due.with("0:1;");
        x.carryOut();
        Due.put(x, "0:2");
        Due.is("carryOut() of what stayed and more", x.carryOut(), 2);
    }

    /** The text's last order is one that shows whether it was carried out: 5:1. */
    static void stopsAfter(String text, int due) {
        JoinedSketches x = Due.with(text + ";5:1");
        Due.is("carryOut() of \"" + text + ";5:1\"", x.carryOut(), due);
        int orders = text.split(";").length;
        Due.is("list of 5 then", x.ofSketch(5, 8), due == orders + 1 ? 1 : 0);
        Due.is("count(4) then", x.count(4), 0);
        Due.is("count(5) then", x.count(5), 1);
    }

    static void carryOutUpToAnError() {
        Due.sentence("23: Carries the orders of the pad out, one after the other, up to the first one that returns "
            + "an error; returns how many orders were carried out");
        stopsAfter("0!", 2);
        stopsAfter("0&0", 0);
        stopsAfter("0&1", 2);
        stopsAfter("0/;0&1", 1);
        stopsAfter("0/;1/;0&1", 4);
        stopsAfter("0/;0/", 3);
        stopsAfter("0/;0/;0/", 2);
        stopsAfter("0*0+0", 0);
        stopsAfter("0*0+1", 2);
        stopsAfter("0*0+999", 2);
        stopsAfter("0*0+1000", 0);
        stopsAfter("0*99999+1", 2);
        stopsAfter("0*99999+2", 0);
        stopsAfter("0*99001+999", 2);
        stopsAfter("0*99002+999", 0);
        stopsAfter("0*0+99999", 0);
        stopsAfter("0:1;0:2;3&3;0:3", 2);
        JoinedSketches x = Due.with("0:1;0:2;3&3;0:3");
        x.carryOut();
        Due.is("list of 0 then", x.ofSketch(0, 8), 2);
        Due.is("carryOut() of 25 orders and an error", Due.with("0!;".repeat(25) + "0&0").carryOut(), 25);
    }

    static void carryOutEmptiesThePad() {
        Due.sentence("23: and empties the pad");
        for (String text : new String[] {"0!", "0&0", "0:1;2&2;0:2", EIGHTY}) {
            JoinedSketches x = Due.with(text);
            x.carryOut();
            Due.is("count(4) after carryOut() of \"" + text + "\"", x.count(4), 0);
            Due.is("wipe() then", x.wipe(), 0);
            Due.is("carryOut() again", x.carryOut(), Due.BAD_TEXT);
        }
    }

    static void carryOutIsOneChange() {
        Due.sentence("23: This is a change (one, with all of them; also if none is carried out)");
        Due.change("carryOut() of 27 orders", () -> Due.put(Due.ofMany(3), EIGHTY), JoinedSketches::carryOut, 27);
        Due.change("carryOut() of none", () -> Due.put(Due.ofMany(3), "0&0"), JoinedSketches::carryOut, 0);
        Due.change("carryOut() up to an error", () -> Due.put(Due.ofMany(3), "0:7;0/;0&1"), JoinedSketches::carryOut,
            2);
        Due.change("carryOut() with a full history", Due::furnished, JoinedSketches::carryOut, 2);
        JoinedSketches x = Due.with("0:1;1:2;2:3;3:4;4:5;5:6;0:7;1:8");
        x.carryOut();
        Due.is("undo() of 8 orders", x.undo(), 0);
        Due.is("count(2) then", x.count(2), 0);
        Due.is("count(4): the pad stays empty", x.count(4), 0);
    }
}
