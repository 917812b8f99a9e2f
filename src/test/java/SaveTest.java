/** Promises 30 and 31: the save slots. */
public final class SaveTest {
    public static void main(String[] args) {
        saveAndRestore();
        twoSlots();
        restoreForgets();
        saveIsNoAction();
        undoKeepsTheSlots();
        loadEmptiesTheSlots();
        Check.end();
    }

    private static void saveAndRestore() {
        GripInspector x = Check.lift("L080320313g001g304h2h3");
        x.step(23);
        x.setLimit(3, 1);
        x.scrap(3);
        String before = Check.state(x);
        Check.same("save(0)", x.save(0), 23);
        x.step(40);
        x.setRandom(4);
        x.addGrip(1);
        x.setLimit(0, 77);
        Check.same("restore(0)", x.restore(0), 23);
        Check.same("the state", Check.state(x), before);
        x.step(8);
        Check.same("restore(0) again", x.restore(0), 23);
        Check.same("the state", Check.state(x), before);
        Check.fails("grip(4, 0) that came later", x, Check.INDEX, () -> x.grip(4, 0));
        for (int slot : new int[] {-1, 2, Integer.MAX_VALUE, Integer.MIN_VALUE}) {
            Check.fails("save(" + slot + ")", x, Check.INDEX, () -> x.save(slot));
            Check.fails("restore(" + slot + ")", x, Check.INDEX, () -> x.restore(slot));
        }
        Check.fails("restore(1)", x, Check.STATE, () -> x.restore(1));
    }

    private static void twoSlots() {
        GripInspector x = Check.lift("L080320313g001g304h2h3");
        Check.same("save(1)", x.save(1), 0);
        Check.fails("restore(0)", x, Check.STATE, () -> x.restore(0));
        x.step(9);
        Check.same("save(0)", x.save(0), 9);
        x.step(9);
        Check.same("restore(1)", x.restore(1), 0);
        Check.same("restore(0)", x.restore(0), 9);
        Check.same("save(1) again", x.save(1), 9);
        x.step(1);
        Check.same("restore(1)", x.restore(1), 9);
    }

    private static void restoreForgets() {
        GripInspector x = new GripInspector();
        x.setRandom(1);
        x.save(0);
        x.setRandom(2);
        x.restore(0);
        Check.same("random()", x.random(), 1);
        Check.fails("undo()", x, Check.STATE, x::undo);
        x.setRandom(3);
        Check.fails("restore(1)", x, Check.STATE, () -> x.restore(1));
        Check.same("undo() of the action since", x.undo(), 0);
        Check.same("random()", x.random(), 1);
    }

    private static void saveIsNoAction() {
        GripInspector x = new GripInspector();
        x.setRandom(1);
        x.save(0);
        x.save(0);
        Check.same("undo()", x.undo(), 0);
        Check.same("random()", x.random(), 0);
        Check.same("restore(0)", x.restore(0), 0);
        Check.same("random()", x.random(), 1);
    }

    private static void undoKeepsTheSlots() {
        GripInspector x = new GripInspector();
        x.addGrip(3);
        x.step(5);
        x.save(1);
        x.undo();
        x.undo();
        Check.same("about(1)", x.about(1), 0);
        Check.same("restore(1)", x.restore(1), 5);
        Check.same("report", Check.report(x), "a@1");
    }

    private static void loadEmptiesTheSlots() {
        GripInspector x = Check.lift("L080320313g001g304h2h3");
        x.step(2);
        x.save(0);
        x.clearText();
        Check.type(x, "L0503203");
        Check.fails("load()", x, Check.STATE, x::load);
        Check.same("restore(0) behind a load() that threw", x.restore(0), 2);
        x.append('1');
        x.append('1');
        x.load();
        Check.fails("restore(0)", x, Check.STATE, () -> x.restore(0));
        Check.fails("restore(1)", x, Check.STATE, () -> x.restore(1));
        Check.same("save(0)", x.save(0), 0);
        x.step(3);
        Check.same("restore(0)", x.restore(0), 0);
        Check.same("about(0)", x.about(0), 5);
    }
}
