/** The boundary sentences of promises 30 and 31: the save slots. */
final class SaveEdges {
    private SaveEdges() {
    }

    static void run() {
        save();
        restore();
        restoreRefused();
    }

    private static void save() {
        Sentence.of(30, "slot: 0 or 1", () -> {
            GripInspector x = new GripInspector();
            x.setRandom(5);
            Check.same("save(0)", x.save(0), 0);
            x.setRandom(6);
            Check.same("save(1)", x.save(1), 0);
            x.restore(0);
            Check.same("random() of 0", x.random(), 5);
            x.restore(1);
            Check.same("random() of 1", x.random(), 6);
        });
        Sentence.of(30, "Stores the present state in a save slot.", () -> {
            GripInspector x = Check.busy();
            String first = Check.state(x);
            x.save(0);
            x.step(99);
            x.addGrip(3);
            x.restore(0);
            Check.same("the state", Check.state(x), first);
            x.setLimit(0, 7);
            x.save(0);
            x.setLimit(0, 8);
            x.restore(0);
            Check.same("about(8) of the later save(0)", x.about(8), 7);
            Check.changesNothing("save(0) of what it holds", SaveEdges::justSaved, y -> y.save(0));
        });
        Sentence.of(30, "Returns the clock.", () -> {
            GripInspector x = new GripInspector();
            Check.same("save(0) at first", x.save(0), 0);
            x.step(99);
            Check.same("save(0)", x.save(0), 99);
        });
        Sentence.of(30, "Throws IndexOutOfBoundsException if there is no such save slot", () -> {
            Check.refusesBeside(0, 1, "save", Check::busy, Check.INDEX, (x, slot) -> x.save(slot));
            Check.refuses("save(2) of a new object", GripInspector::new, Check.INDEX, x -> x.save(2));
        });
    }

    /** It remembers states, and its save slot 0 holds the present one. */
    private static GripInspector justSaved() {
        GripInspector x = Check.busy();
        x.save(0);
        return x;
    }

    private static void restore() {
        Sentence.of(31, "slot: 0 or 1", () -> {
            Check.same("restore(0)", Check.busy().restore(0), 0);
            Check.same("restore(1)", Check.busy().restore(1), 1);
        });
        Sentence.of(31, "Replaces the state by the one in a save slot, and forgets all remembered states.", () -> {
            GripInspector x = Check.busy();
            x.restore(0);
            Check.same("the state", Check.state(x), Check.state(Check.lift("L120150939g000g203h2h3g001h0")));
            Check.fails("undo()", x, Check.STATE, x::undo);
            for (int i = 1; i <= 14; i++) x.setRandom(i);
            for (int left = 13; left >= 0; left--) Check.same("undo() of an action since", x.undo(), left);
            Check.same("random()", x.random(), 0);
            Check.fails("undo() behind restore()", x, Check.STATE, x::undo);
        });
        Sentence.of(31, "The save slot keeps its state.", () -> {
            GripInspector x = Check.busy();
            x.restore(0);
            String first = Check.state(x);
            x.step(99);
            x.scrap(0);
            x.undo();
            Check.same("restore(0) again", x.restore(0), 0);
            Check.same("the state", Check.state(x), first);
            Check.same("restore(0) at once", x.restore(0), 0);
            Check.same("the state", Check.state(x), first);
            Check.same("restore(1) of the other", x.restore(1), 1);
        });
        Sentence.of(31, "Returns the clock then.", () -> {
            GripInspector x = new GripInspector();
            x.save(0);
            x.step(99);
            x.save(1);
            x.step(1);
            Check.same("restore(0)", x.restore(0), 0);
            Check.same("restore(1)", x.restore(1), 99);
            Check.same("about(7)", x.about(7), 99);
        });
    }

    private static void restoreRefused() {
        Sentence.of(31, "Throws IndexOutOfBoundsException if there is no such save slot", () -> {
            Check.refusesBeside(0, 1, "restore", Check::busy, Check.INDEX, (x, slot) -> x.restore(slot));
            Check.refusesBeside(0, 1, "restore of a new object", GripInspector::new, Check.INDEX, (x, i) -> x.restore(i));
        });
        Sentence.of(31, "Throws IllegalStateException if nothing has been saved in it, or not since the last load()", () -> {
            Check.refuses("restore(0) of a new object", GripInspector::new, Check.STATE, x -> x.restore(0));
            Check.refuses("restore(1) of a new object", GripInspector::new, Check.STATE, x -> x.restore(1));
            for (int i = 0; i <= 1; i++) {
                int saved = i;
                Check.refuses("restore() of the other save slot than " + i, () -> {
                    GripInspector x = new GripInspector();
                    x.save(saved);
                    return x;
                }, Check.STATE, x -> x.restore(1 - saved));
                Check.refuses("restore(" + i + ") behind load()", () -> {
                    GripInspector x = Check.busy();
                    x.load();
                    return x;
                }, Check.STATE, x -> x.restore(saved));
            }
            GripInspector x = Check.busy();
            x.append('h');
            Check.fails("load() of no lift", x, Check.STATE, x::load);
            Check.same("restore(1) behind a load() that threw", x.restore(1), 1);
            x.append('0');
            x.load();
            x.save(1);
            Check.same("restore(1) of a save() since load()", x.restore(1), 0);
            Check.fails("restore(0) not saved since load()", x, Check.STATE, () -> x.restore(0));
        });
    }
}
