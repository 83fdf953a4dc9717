import java.util.ArrayList;
import java.util.List;
import java.util.function.ToLongFunction;

/** The edges that promises 24 to 26 name: a test for each sentence that names one. */
final class BoundsOfUndoSavingTest {
    public static void main(String[] args) {
        historyOf6States();
        oldestOneIsDropped();
        changesThatChangeNothing();
        errorsRecordNothing();
        questionsRecordNothing();
        ordersRecordNothing();
        undoOfNothing();
        undoLeavesThePad();
        undoLeavesTheSlots();
        undoBringsAllBack();
        fullStatesComeBack();
        noSuchSlot();
        saveOverwrites();
        saveKeepsThePadAndHistory();
        saveTellsHowMany();
        nothingWasSaved();
        restoreKeepsTheSlot();
        restoreIsAChange();
        Due.end();
    }

    /** A list of so many things tells which state this is: each change adds one. */
    static JoinedSketches changed(int changes) {
        JoinedSketches x = new JoinedSketches();
        for (int thing = 0; thing < changes; thing++) {
            x.add(0, thing);
        }
        return x;
    }

    static void historyOf6States() {
        Due.sentence("24: A history of at most 6 states is kept; returns how many changes can be undone then");
        for (int changes = 1; changes <= 8; changes++) {
            JoinedSketches x = changed(changes);
            int kept = Math.min(6, changes);
            Due.is("count(5) after " + changes, x.count(5), kept);
            for (int left = kept - 1; left >= 0; left--) {
                Due.is("undo() after " + changes, x.undo(), left);
                Due.is("things then", x.ofSketch(0, 8), changes - kept + left);
            }
            Due.is("undo() of nothing", x.undo(), Due.NOT_POSSIBLE);
            Due.is("things then", x.ofSketch(0, 8), changes - kept);
        }
    }

    static void oldestOneIsDropped() {
        Due.sentence("24: when one more is recorded, the oldest one is dropped");
        for (int changes : new int[] {6, 7, 12, 13, 35}) {
            for (int undone = 0; undone <= 6; undone++) {
                JoinedSketches x = changed(changes);
                for (int step = 0; step < undone; step++) {
                    x.undo();
                }
                List<Integer> before = new ArrayList<>();
                for (int things = changes - 6; things <= changes - undone; things++) {
                    before.add(things);
                }
                for (int more = 0; more < 3; more++) {
                    x.add(0, 100 + more);
                    before.add(changes - undone + more + 1);
                }
                for (int at = before.size() - 2; at >= Math.max(0, before.size() - 7); at--) {
                    x.undo();
                    Due.is("things after undo() behind " + changes + " less " + undone, x.ofSketch(0, 8),
                        before.get(at));
                }
                Due.is("undo() of nothing", x.undo(), Due.NOT_POSSIBLE);
            }
        }
    }

    static void changesThatChangeNothing() {
        Due.sentence("24: each method that is a change, and returns no error, records the state before it (also if "
            + "nothing is different then)");
        List<ToLongFunction<JoinedSketches>> changes = List.of(x -> x.salt(12345), x -> x.bits(0, 4), x -> x.add(0, 7),
            x -> x.addRange(0, 7, 1), x -> x.join(0, 1), x -> x.empty(1), x -> x.carryOut(), x -> x.restore(0));
        for (int number = 0; number < changes.size(); number++) {
            JoinedSketches x = new JoinedSketches();
            x.save(0);
            Due.put(x, "1!");
            boolean isAdd = number == 2 || number == 3;
            if (isAdd) {
                x.add(0, 7);
            }
            String before = Due.contents(x);
            int undos = x.count(5);
            changes.get(number).applyAsLong(x);
            Due.is("all after change " + number, Due.contents(x), before);
            Due.is("count(5) then", x.count(5), undos + 1);
            Due.is("undo() then", x.undo(), undos);
            Due.is("all then", Due.contents(x), before);
        }
    }

    static void errorsRecordNothing() {
        Due.sentence("24: and returns no error");
        List<ToLongFunction<JoinedSketches>> errors = List.of(x -> x.salt(-1), x -> x.salt(65536), x -> x.bits(6, 4),
            x -> x.bits(0, 1), x -> x.bits(0, 7), x -> x.add(-1, 0), x -> x.add(0, 100000), x -> x.addRange(6, 0, 1),
            x -> x.addRange(0, 0, 0), x -> x.addRange(0, 99999, 2), x -> x.join(0, 6), x -> x.join(6, 0),
            x -> x.join(0, 0), x -> x.join(0, 1), x -> x.fold(6), x -> x.fold(0), x -> x.empty(6), x -> x.carryOut(),
            x -> x.restore(0), x -> x.restore(2));
        for (int number = 0; number < errors.size(); number++) {
            JoinedSketches x = new JoinedSketches();
            x.bits(0, 2);
            Due.is("whether call " + number + " is an error", errors.get(number).applyAsLong(x) < 0 ? 1 : 0, 1);
            Due.is("count(5) then", x.count(5), 1);
        }
    }

    static void questionsRecordNothing() {
        Due.sentence("24: each method that is a change records the state; no other one does");
        JoinedSketches x = Due.with("0!");
        x.add(0, 1);
        x.thing(0, 1, 0);
        x.bucket(0, 0);
        x.ofSketch(0, 0);
        x.withRank(0, 0);
        x.listed(0, 0);
        x.together(0, 1);
        x.alike(0, 1);
        x.off(0);
        x.nextNew(0, 0);
        x.bestSalt(0);
        x.put('1');
        x.fault();
        x.wipe();
        x.save(0);
        Due.is("count(5)", x.count(5), 1);
    }

    static void ordersRecordNothing() {
        Due.sentence("24: An order of a text records nothing by itself");
        for (String text : new String[] {"0:1", "0:1,2,3,4,5,6,7", "0&1", "0!", "0*1+9", "0/", "0:1;0&1;0!;0*1+9;0/"}) {
            JoinedSketches x = changed(3);
            Due.put(x, text);
            String before = Due.contents(x);
            x.carryOut();
            Due.is("count(5) after " + text, x.count(5), 4);
            Due.is("undo()", x.undo(), 3);
            Due.is("all then", Due.contents(x), before);
        }
    }

    static void undoOfNothing() {
        Due.sentence("24: NOT_POSSIBLE if there is none");
        Due.error("undo() of a new one", JoinedSketches::new, JoinedSketches::undo, Due.NOT_POSSIBLE);
        Due.error("undo() after what is no change", () -> {
            JoinedSketches x = Due.with("0!");
            x.save(0);
            x.salt(-1);
            return x;
        }, JoinedSketches::undo, Due.NOT_POSSIBLE);
        Due.error("undo() after all was undone", () -> {
            JoinedSketches x = changed(7);
            for (int step = 0; step < 6; step++) {
                x.undo();
            }
            return x;
        }, JoinedSketches::undo, Due.NOT_POSSIBLE);
    }

    static void undoLeavesThePad() {
        Due.sentence("24: everything except the pad is as it was before it");
        JoinedSketches x = changed(2);
        Due.put(x, "1:5");
        x.undo();
        Due.is("count(4) after undo() of what was before put()", x.count(4), 3);
        Due.is("carryOut() of it", x.carryOut(), 1);
        Due.is("count(4) then", x.count(4), 0);
        x.undo();
        Due.is("count(4) after undo() of carryOut()", x.count(4), 0);
        JoinedSketches y = changed(1);
        Due.put(y, "1:5");
        y.add(0, 9);
        y.wipe();
        y.undo();
        Due.is("count(4) after undo() of what was before wipe()", y.count(4), 0);
    }

    static void undoLeavesTheSlots() {
        Due.sentence("24: everything except the slots is as it was before it");
        JoinedSketches x = changed(2);
        x.save(0);
        x.add(0, 50);
        x.save(1);
        x.undo();
        x.undo();
        x.undo();
        Due.is("things then", x.ofSketch(0, 8), 0);
        x.restore(0);
        Due.is("things after restore(0)", x.ofSketch(0, 8), 2);
        x.restore(1);
        Due.is("things after restore(1)", x.ofSketch(0, 8), 3);
        JoinedSketches y = changed(0);
        y.add(0, 1);
        y.save(0);
        y.undo();
        y.add(1, 1);
        y.add(1, 2);
        y.restore(0);
        Due.is("things of 0 after restore(0)", y.ofSketch(0, 8), 1);
        Due.is("things of 1 after restore(0)", y.ofSketch(1, 8), 0);
    }

    static void undoBringsAllBack() {
        Due.sentence("24: Undoes the latest change");
        List<ToLongFunction<JoinedSketches>> changes = List.of(x -> x.salt(0), x -> x.bits(3, 3), x -> x.add(0, 99999),
            x -> x.addRange(2, 0, 999), x -> x.join(1, 2), x -> x.join(2, 1), x -> x.fold(3), x -> x.empty(1),
            BoundsOfUndoSavingTest::someOrders, x -> x.restore(1));
        for (int first = 0; first < changes.size(); first++) {
            for (int second = 0; second < changes.size(); second++) {
                JoinedSketches x = Due.furnished();
                changes.get(first).applyAsLong(x);
                String between = Due.contents(x);
                changes.get(second).applyAsLong(x);
                x.undo();
                Due.is("all after change " + first + ", then " + second + " and undo()", Due.contents(x), between);
            }
        }
    }

    /** Six sketches of 64 buckets, the last one filled, and of so many things; saved in slot 1. */
    static JoinedSketches ofLists(int many) {
        JoinedSketches x = new JoinedSketches();
        for (int sketch = 0; sketch < 6; sketch++) {
            x.bits(sketch, 6);
            x.addRange(sketch, 1000 * sketch, many);
            x.add(sketch, Due.thingFor(Due.FIRST_SALT, 6, 63, 11, 0));
        }
        x.save(1);
        return x;
    }

    static void fullStatesComeBack() {
        Due.sentence("24 and 26: everything is as it was: 39, 40 and 41 things, the last of 64 buckets");
        for (int many = 38; many <= 40; many++) {
            String before = Due.contents(ofLists(many));
            JoinedSketches undone = ofLists(many);
            undone.empty(5);
            undone.addRange(5, 70000, 40);
            undone.join(0, 5);
            undone.undo();
            undone.undo();
            undone.undo();
            Due.is("all after undo(), " + many + " things and one", Due.contents(undone), before);
            JoinedSketches restored = ofLists(many);
            restored.salt(1);
            for (int sketch = 0; sketch < 6; sketch++) {
                restored.addRange(sketch, 50000, 40);
            }
            restored.restore(1);
            Due.is("all after restore(), " + many + " things and one", Due.contents(restored), before);
        }
    }

    static int someOrders(JoinedSketches x) {
        x.wipe();
        return Due.put(x, "1!;2:5").carryOut();
    }

    static void noSuchSlot() {
        Due.sentence("25 and 26: slot: 0 or 1; BAD_VALUE if there is no such slot");
        for (int slot : new int[] {-1, 2, Integer.MIN_VALUE, Integer.MAX_VALUE}) {
            Due.error("save(" + slot + ")", Due::furnished, x -> x.save(slot), Due.BAD_VALUE);
            Due.error("restore(" + slot + ")", Due::furnished, x -> x.restore(slot), Due.BAD_VALUE);
            Due.error("restore(" + slot + ") of a new one", JoinedSketches::new, x -> x.restore(slot), Due.BAD_VALUE);
        }
        for (int slot = 0; slot <= 1; slot++) {
            JoinedSketches x = changed(1);
            Due.is("save(" + slot + ")", x.save(slot), 1);
            Due.is("restore(" + slot + ")", x.restore(slot), 1);
            Due.is("restore() of the other slot", x.restore(1 - slot), Due.NOT_POSSIBLE);
        }
    }

    static void saveOverwrites() {
        Due.sentence("25: Saves everything in a slot, and overwrites what was saved there");
        for (int slot = 0; slot <= 1; slot++) {
            JoinedSketches x = Due.furnished();
            x.save(1 - slot);
            String first = Due.contents(x);
            x.save(slot);
            x.salt(65535);
            x.bits(5, 6);
            x.save(slot);
            x.add(5, 1);
            x.restore(slot);
            Due.is("SALT after restore() of what overwrote", x.count(0), 65535);
            Due.is("BITS of 5 then", x.ofSketch(5, 0), 6);
            Due.is("count(2) then", x.count(2), 0);
            x.restore(1 - slot);
            Due.is("all after restore() of the other slot", Due.contents(x), first);
        }
    }

    static void saveKeepsThePadAndHistory() {
        Due.sentence("25: Saves everything except the pad, the history and the slots");
        JoinedSketches x = changed(3);
        Due.put(x, "0!");
        x.save(0);
        Due.is("count(5) after save()", x.count(5), 3);
        Due.is("count(4) after save()", x.count(4), 2);
        x.wipe();
        x.undo();
        x.undo();
        x.save(1);
        x.restore(0);
        Due.is("count(4) after restore(): the pad stays as it is", x.count(4), 0);
        Due.is("count(5) after restore(): the history goes on", x.count(5), 2);
        Due.is("things after restore()", x.ofSketch(0, 8), 3);
        x.restore(1);
        Due.is("things after restore(1)", x.ofSketch(0, 8), 1);
        Due.put(x, "1:2");
        x.restore(0);
        Due.is("count(4) after restore(0)", x.count(4), 3);
    }

    static void saveTellsHowMany() {
        Due.sentence("25 and 26: Returns how many buckets are not empty (then)");
        JoinedSketches x = new JoinedSketches();
        Due.is("save(0) of a new one", x.save(0), 0);
        for (int sketch = 0; sketch < 6; sketch++) {
            x.bits(sketch, 6);
            x.addRange(sketch, 0, 999);
        }
        Due.is("save(1) of all", x.save(1), 384);
        Due.is("restore(0)", x.restore(0), 0);
        Due.is("restore(1)", x.restore(1), 384);
        Due.is("count(2)", x.count(2), 384);
        x.salt(5);
        x.add(3, 3);
        Due.is("save(0) of one", x.save(0), 1);
    }

    static void nothingWasSaved() {
        Due.sentence("26: NOT_POSSIBLE if nothing was saved in it");
        for (int slot = 0; slot <= 1; slot++) {
            int asked = slot;
            Due.error("restore(" + slot + ") of a new one", JoinedSketches::new, x -> x.restore(asked),
                Due.NOT_POSSIBLE);
            Due.error("restore(" + slot + ") after save() of the other one", () -> {
                JoinedSketches x = changed(2);
                x.save(1 - asked);
                return x;
            }, x -> x.restore(asked), Due.NOT_POSSIBLE);
        }
        JoinedSketches x = new JoinedSketches();
        x.save(0);
        Due.is("restore(0) of empty sketches that were saved", x.restore(0), 0);
    }

    static void restoreKeepsTheSlot() {
        Due.sentence("26: Restores what was saved last in a slot, which keeps it");
        JoinedSketches x = Due.furnished();
        x.save(0);
        String saved = Due.contents(x);
        x.restore(0);
        x.addRange(0, 900, 41);
        x.bits(3, 2);
        x.salt(1);
        x.restore(0);
        Due.is("all after restore(0)", Due.contents(x), saved);
        x.fold(1);
        x.undo();
        x.undo();
        x.restore(0);
        Due.is("all after restore(0) again", Due.contents(x), saved);
    }

    static void restoreIsAChange() {
        Due.sentence("26: This is a change");
        Due.change("restore(1) with a full history", Due::furnished, x -> x.restore(1), 4);
        Due.change("restore(0) of the same", () -> {
            JoinedSketches x = changed(3);
            x.save(0);
            return x;
        }, x -> x.restore(0), changed(3).count(2));
    }
}
