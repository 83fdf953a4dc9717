import java.util.ArrayList;
import java.util.List;

/** Promises 24 to 26: undo, save, restore. */
final class UndoSavingTest {
    public static void main(String[] args) {
        undoGoesBack();
        undoBringsListsBack();
        undoKeepsSix();
        undoAfterNewChanges();
        undoLeavesPadAndSlots();
        undoErrors();
        saveAnswers();
        saveOverwrites();
        saveErrors();
        restoreBringsBack();
        restoreIsAChange();
        restoreErrors();
        Due.end();
    }

    static void change(JoinedSketches x, int number) {
        switch (number % 8) {
            case 0: x.add(0, 3 * number); break;
            case 1: x.bits(number % 6, 2 + number % 5); break;
            case 2: x.addRange(1, 10 * number, 45); break;
            case 3: x.fold(2); break;
            case 4: Due.put(x, "3:" + number + ";4*5+6").carryOut(); break;
            case 5: x.empty(1); break;
            case 6: x.save(0); x.restore(0); break;
            default: x.salt(number); break;
        }
    }

    static void undoGoesBack() {
        for (int start = 0; start < 8; start++) {
            JoinedSketches x = new JoinedSketches();
            List<String> before = new ArrayList<>();
            for (int number = start; number < start + 5; number++) {
                before.add(shortContents(x));
                change(x, number);
                Due.is("changes to undo", x.count(5), number - start + 1);
            }
            for (int left = 4; left >= 0; left--) {
                Due.is("undo()", x.undo(), left);
                Due.is("contents then", shortContents(x), before.get(left));
            }
            Due.is("undo() of nothing", x.undo(), Due.NOT_POSSIBLE);
        }
    }

    /** Enough to tell the states of these tests apart, in few calls. */
    static String shortContents(JoinedSketches x) {
        StringBuilder text = new StringBuilder();
        text.append(x.count(0)).append(' ').append(x.count(2));
        for (int sketch = 0; sketch < 6; sketch++) {
            text.append(' ').append(x.ofSketch(sketch, 0)).append(' ').append(x.ofSketch(sketch, 4));
            text.append(' ').append(x.ofSketch(sketch, 8)).append(' ').append(x.listed(sketch, 0));
        }
        return text.toString();
    }

    static void undoBringsListsBack() {
        JoinedSketches x = new JoinedSketches();
        x.addRange(3, 30, 5);
        x.save(0);
        String before = Due.sketchText(x, 3);
        x.empty(3);
        x.addRange(3, 800, 9);
        x.undo();
        Due.is("emptied sketch", x.ofSketch(3, 8), 0);
        x.undo();
        Due.is("sketch after undo() of empty()", Due.sketchText(x, 3), before);
        x.empty(3);
        x.addRange(3, 800, 41);
        x.undo();
        x.undo();
        Due.is("sketch after undo() of a full list", Due.sketchText(x, 3), before);
        x.bits(3, 5);
        x.addRange(3, 700, 5);
        x.restore(0);
        Due.is("sketch after restore()", Due.sketchText(x, 3), before);
        x.fold(3);
        x.fold(3);
        x.undo();
        x.undo();
        Due.is("sketch after undo() of fold()", Due.sketchText(x, 3), before);
    }

    static void undoKeepsSix() {
        JoinedSketches x = new JoinedSketches();
        for (int thing = 1; thing <= 20; thing++) {
            x.add(0, thing);
            Due.is("changes to undo", x.count(5), Math.min(6, thing));
        }
        for (int left = 5; left >= 0; left--) {
            Due.is("undo()", x.undo(), left);
            Due.is("list then", x.ofSketch(0, 8), 14 + left);
        }
        Due.is("undo() of nothing", x.undo(), Due.NOT_POSSIBLE);
        Due.is("list still", x.ofSketch(0, 8), 14);
    }

    static void undoAfterNewChanges() {
        JoinedSketches x = new JoinedSketches();
        for (int thing = 1; thing <= 8; thing++) {
            x.add(0, thing);
        }
        x.undo();
        x.undo();
        x.add(1, 50);
        Due.is("changes to undo", x.count(5), 5);
        Due.is("undo()", x.undo(), 4);
        Due.is("list of 1", x.ofSketch(1, 8), 0);
        Due.is("list of 0", x.ofSketch(0, 8), 6);
        Due.is("undo()", x.undo(), 3);
        Due.is("list of 0", x.ofSketch(0, 8), 5);
    }

    static void undoLeavesPadAndSlots() {
        JoinedSketches x = new JoinedSketches();
        x.addRange(0, 0, 5);
        int filled = x.save(0);
        Due.put(x, "1:5");
        x.add(1, 3);
        x.save(1);
        x.undo();
        x.undo();
        Due.is("pad after undo()", x.count(4), 3);
        Due.is("changes to undo", x.count(5), 0);
        Due.is("restore(0) after undo()", x.restore(0), filled);
        Due.is("restore(1) after undo()", x.restore(1), filled + 1);
    }

    static void undoErrors() {
        Due.error("undo() on a new object", JoinedSketches::new, JoinedSketches::undo, Due.NOT_POSSIBLE);
        JoinedSketches x = new JoinedSketches();
        x.empty(0);
        Due.is("undo() of a change that changed nothing", x.undo(), 0);
        Due.is("undo() after it", x.undo(), Due.NOT_POSSIBLE);
    }

    static void saveAnswers() {
        JoinedSketches x = new JoinedSketches();
        Due.is("save(0) of nothing", x.save(0), 0);
        Due.is("save() is no change", x.count(5), 0);
        x.bits(2, 3);
        Due.fill(x, 2, 1, 5, 2);
        x.add(0, 4);
        Due.is("save(1)", x.save(1), 4);
        Due.is("changes to undo still", x.count(5), 5);
        Due.is("restore(0)", x.restore(0), 0);
        Due.is("restore(1)", x.restore(1), 4);
    }

    static void saveOverwrites() {
        JoinedSketches x = new JoinedSketches();
        x.addRange(0, 0, 3);
        x.save(0);
        x.addRange(1, 70, 3);
        x.save(0);
        String saved = Due.contents(x);
        x.salt(3);
        x.restore(0);
        Due.is("contents after restore(0)", Due.contents(x), saved);
    }

    static void saveErrors() {
        for (int slot : new int[] {-1, 2, Integer.MIN_VALUE, Integer.MAX_VALUE}) {
            Due.error("save(" + slot + ")", Due::furnished, x -> x.save(slot), Due.BAD_VALUE);
        }
    }

    static void restoreBringsBack() {
        JoinedSketches x = new JoinedSketches();
        x.salt(500);
        x.bits(4, 6);
        x.addRange(4, 0, 41);
        x.addRange(0, 8, 6);
        int filled = x.save(1);
        String saved = Due.contents(x);
        x.salt(501);
        x.bits(4, 3);
        x.add(5, 1);
        Due.put(x, "0!");
        Due.is("restore(1)", x.restore(1), filled);
        Due.is("contents then", Due.contents(x), saved);
        Due.is("pad then", x.count(4), 2);
        x.add(0, 99);
        x.fold(4);
        Due.is("restore(1) again: the slot keeps it", x.restore(1), filled);
        Due.is("list of 0 then", x.ofSketch(0, 8), 6);
        Due.is("BITS of 4 then", x.ofSketch(4, 0), 6);
    }

    static void restoreIsAChange() {
        Due.change("restore(1)", Due::furnished, x -> x.restore(1), 4);
        JoinedSketches x = new JoinedSketches();
        x.save(0);
        x.restore(0);
        Due.is("restore() of the same is a change", x.count(5), 1);
        x.add(0, 1);
        x.restore(0);
        Due.is("undo() of restore()", x.undo(), 2);
        Due.is("list then", x.ofSketch(0, 8), 1);
    }

    static void restoreErrors() {
        for (int slot : new int[] {-1, 2, Integer.MIN_VALUE, Integer.MAX_VALUE}) {
            Due.error("restore(" + slot + ")", Due::furnished, x -> x.restore(slot), Due.BAD_VALUE);
        }
        Due.error("restore(0), not saved", Due::furnished, x -> x.restore(0), Due.NOT_POSSIBLE);
    }
}
