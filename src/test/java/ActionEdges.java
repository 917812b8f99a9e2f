/** The boundary sentences of promises 12 to 18 and of ACTIONS AND UNDO. */
final class ActionEdges {
    private ActionEdges() {
    }

    static void run() {
        addGrip();
        putOn();
        putOnRefused();
        takeOff();
        scrap();
        setLimit();
        setRandom();
        undo();
        whatIsAnAction();
        whatIsRemembered();
        fourteenStates();
        whatIsNotInTheState();
        whatIsNoAction();
    }

    private static GripInspector twelve() {
        return Check.lift("L201020413g019g000g001g002g003g004g005g006g007g008g009h0");
    }

    private static void addGrip() {
        Sentence.of(12, "weight: 0 to 3", () -> {
            GripInspector x = new GripInspector();
            Check.same("addGrip(0)", x.addGrip(0), 0);
            Check.same("addGrip(3)", x.addGrip(3), 1);
            Check.same("the weights", x.grip(0, 0) * 10 + x.grip(1, 0), 3);
        });
        Sentence.of(12, "Returns its number.", () -> {
            GripInspector x = new GripInspector();
            for (int g = 0; g <= 11; g++) Check.same("addGrip(1)", x.addGrip(1), g);
            Check.same("addGrip(1) behind scrapped ones", Check.busy().addGrip(1), 6);
        });
        Sentence.of(12, "Throws IllegalArgumentException if weight is out of range", () -> {
            Check.refusesBeside(0, 3, "addGrip", Check::busy, Check.ARGUMENT, (x, weight) -> x.addGrip(weight));
            Check.refuses("addGrip(4) of a new object", GripInspector::new, Check.ARGUMENT, x -> x.addGrip(4));
        });
        Sentence.of(12, "Throws IllegalStateException if there are 12 grips", () -> {
            GripInspector x = new GripInspector();
            for (int g = 0; g < 11; g++) x.addGrip(0);
            Check.same("addGrip(0) to eleven", x.addGrip(0), 11);
            Check.refuses("addGrip(0) to twelve", ActionEdges::twelve, Check.STATE, y -> y.addGrip(0));
            Check.refuses("addGrip(3) to twelve with scrapped ones", () -> {
                GripInspector y = twelve();
                for (int g = 0; g < 12; g++) y.scrap(g);
                return y;
            }, Check.STATE, y -> y.addGrip(3));
            x.undo();
            Check.same("addGrip(0) behind undo()", x.addGrip(0), 11);
        });
    }

    private static void putOn() {
        Sentence.of(13, "g: grip", () -> {
            Check.same("putOn(0, 2)", Check.lift("L041020423h0").putOn(0, 2), 1);
            Check.same("putOn(11, 19)", Check.lift("L201020413g000h0h0h0h0h0h0h0h0h0h0h0").putOn(11, 19), 2);
        });
        Sentence.of(13, "i: slot", () -> {
            GripInspector x = Check.lift("L200120413h0h0");
            Check.same("putOn(0, 19)", x.putOn(0, 19), 1);
            Check.same("putOn(1, 0)", x.putOn(1, 0), 2);
            Check.same("the report", Check.report(x), "a@19 b@0");
            Check.same("putOn(0, 3) of 4", Check.lift("L040120443h0").putOn(0, 3), 1);
        });
        Sentence.of(13, "Returns the number of grips on the line then.", () -> {
            Check.same("putOn(0, 0) on an empty line", Check.lift("L040120443h0").putOn(0, 0), 1);
            Check.same("putOn(11, 10) of the last one", twelve().putOn(11, 10), 12);
            Check.same("putOn(3, 6)", Check.busy().putOn(3, 6), 3);
        });
        Sentence.of(13, "Throws IndexOutOfBoundsException if there is no such grip or slot", () -> {
            Check.refusesBeside(0, 5, "putOn(.., 6)", Check::busy, Check.INDEX, (x, g) -> x.putOn(g, 6));
            Check.refusesBeside(0, 11, "putOn(.., 10) of twelve", ActionEdges::twelve, Check.INDEX, (x, g) -> x.putOn(g, 10));
            Check.refusesBeside(0, 11, "putOn(2, ..)", Check::busy, Check.INDEX, (x, i) -> x.putOn(2, i));
            Check.refusesBeside(0, 19, "putOn(11, ..)", ActionEdges::twelve, Check.INDEX, (x, i) -> x.putOn(11, i));
            Check.refuses("putOn(0, 0) without grips", GripInspector::new, Check.INDEX, x -> x.putOn(0, 0));
        });
    }

    private static void putOnRefused() {
        Sentence.of(13, "Throws IllegalStateException if the grip is not in the garage, the slot is not empty, or a grip on "
            + "the line has a distance from it below the spacing", () -> {
            Check.same("putOn(2, 6)", Check.busy().putOn(2, 6), 3);
            Check.refuses("putOn(0, 6) from the line", Check::busy, Check.STATE, x -> x.putOn(0, 6));
            Check.refuses("putOn(0, 0) to its own slot", Check::busy, Check.STATE, x -> x.putOn(0, 0));
            Check.refuses("putOn(4, 6) from the workshop", Check::busy, Check.STATE, x -> x.putOn(4, 6));
            Check.refuses("putOn(5, 6) of a scrapped one", Check::busy, Check.STATE, x -> x.putOn(5, 6));
            Check.refuses("putOn(11, 0) with the spacing 1", ActionEdges::twelve, Check.STATE, x -> x.putOn(11, 0));
            Check.refuses("putOn(11, 19) with the spacing 1", ActionEdges::twelve, Check.STATE, x -> x.putOn(11, 19));
            Check.same("putOn(11, 10) with the spacing 1", twelve().putOn(11, 10), 12);
            int[] near = {0, 1, 2, 3, 4, 5, 10, 11};
            for (int i : near) Check.refuses("putOn(2, " + i + ")", Check::busy, Check.STATE, x -> x.putOn(2, i));
            for (int i = 6; i <= 9; i++) {
                int slot = i;
                Check.same("putOn(2, " + i + ")", Check.outcome(() -> Check.busy().putOn(2, slot)), "3");
            }
        });
    }

    private static void takeOff() {
        Sentence.of(14, "g: grip", () -> {
            GripInspector x = twelve();
            x.putOn(11, 10);
            Check.same("takeOff(11)", x.takeOff(11), 10);
            Check.same("takeOff(0)", x.takeOff(0), 19);
        });
        Sentence.of(14, "Returns its slot.", () -> {
            Check.same("takeOff(0) of the last slot", twelve().takeOff(0), 19);
            Check.same("takeOff(1) of slot 0", twelve().takeOff(1), 0);
        });
        Sentence.of(14, "Throws IndexOutOfBoundsException if there is no such grip", () -> {
            Check.refusesBeside(0, 5, "takeOff", Check::busy, Check.INDEX, (x, g) -> x.takeOff(g));
            Check.refusesBeside(0, 11, "takeOff of twelve", ActionEdges::twelve, Check.INDEX, (x, g) -> x.takeOff(g));
            Check.refuses("takeOff(0) without grips", GripInspector::new, Check.INDEX, x -> x.takeOff(0));
        });
        Sentence.of(14, "Throws IllegalStateException if it is not on the line", () -> {
            Check.refuses("takeOff(2) in the garage", Check::busy, Check.STATE, x -> x.takeOff(2));
            Check.refuses("takeOff(4) in the workshop", Check::busy, Check.STATE, x -> x.takeOff(4));
            Check.refuses("takeOff(5) of a scrapped one", Check::busy, Check.STATE, x -> x.takeOff(5));
        });
    }

    private static void scrap() {
        Sentence.of(15, "g: grip", () -> {
            Check.same("scrap(0)", twelve().scrap(0), 0);
            Check.same("scrap(11)", twelve().scrap(11), 1);
        });
        Sentence.of(15, "Returns where it was, 0 to 2, as for grip().", () -> {
            Check.same("scrap(0) on the line", Check.busy().scrap(0), 0);
            Check.same("scrap(2) in the garage", Check.busy().scrap(2), 1);
            Check.same("scrap(4) in the workshop", Check.busy().scrap(4), 2);
        });
        Sentence.of(15, "Throws IndexOutOfBoundsException if there is no such grip", () -> {
            Check.refusesBeside(0, 5, "scrap", Check::busy, Check.INDEX, (x, g) -> x.scrap(g));
            Check.refusesBeside(0, 11, "scrap of twelve", ActionEdges::twelve, Check.INDEX, (x, g) -> x.scrap(g));
            Check.refuses("scrap(0) without grips", GripInspector::new, Check.INDEX, x -> x.scrap(0));
        });
        Sentence.of(15, "Throws IllegalStateException if it is scrapped", () ->
            Check.refuses("scrap(5)", Check::busy, Check.STATE, x -> x.scrap(5)));
    }

    private static void setLimit() {
        int[] greatest = {99, 50, 9, 4, 9};
        int[] first = {10, 20, 4, 2, 3};
        Sentence.of(16, "what: 0: the limit of cycles; 1: the limit of slip; 2: the rate; 3: the spacing; 4: the time of the "
            + "workshop", () -> {
            GripInspector x = new GripInspector();
            Check.same("setLimit(0, 5)", x.setLimit(0, 5), 10);
            Check.same("setLimit(4, 5)", x.setLimit(4, 5), 3);
            Check.same("about(..)", Check.about(x), "8 0 0 0 0 0 0 0 5 20 4 2 5");
        });
        Sentence.of(16, "v: new number, in the range that LINE AND GRIPS gives", () -> {
            for (int what = 0; what <= 4; what++) {
                GripInspector x = new GripInspector();
                Check.same("setLimit(" + what + ", 1)", x.setLimit(what, 1), first[what]);
                Check.same("setLimit(" + what + ", " + greatest[what] + ")", x.setLimit(what, greatest[what]), 1);
                Check.same("about(" + (8 + what) + ")", x.about(8 + what), greatest[what]);
            }
        });
        Sentence.of(16, "Throws IllegalArgumentException if what or v is out of range", () -> {
            Check.refusesBeside(0, 4, "setLimit(.., 1)", Check::busy, Check.ARGUMENT, (x, what) -> x.setLimit(what, 1));
            for (int i = 0; i <= 4; i++) {
                int what = i;
                Check.refusesBeside(1, greatest[i], "setLimit(" + i + ", ..)", Check::busy, Check.ARGUMENT,
                    (x, v) -> x.setLimit(what, v));
            }
            Check.refuses("setLimit(5, 0)", Check::busy, Check.ARGUMENT, x -> x.setLimit(5, 0));
        });
    }

    private static void setRandom() {
        Sentence.of(17, "x: new random state", () -> {
            GripInspector x = new GripInspector();
            Check.same("setRandom(smallest)", x.setRandom(Long.MIN_VALUE), 0);
            Check.same("setRandom(greatest)", x.setRandom(Long.MAX_VALUE), Long.MIN_VALUE);
            Check.same("setRandom(-1)", x.setRandom(-1), Long.MAX_VALUE);
            Check.same("setRandom(2^32)", x.setRandom(1L << 32), -1);
            Check.same("random()", x.random(), 1L << 32);
        });
    }

    private static void undo() {
        Sentence.of(18, "Returns how many states are still remembered.", () -> {
            GripInspector x = Check.busy();
            for (int left = 13; left >= 0; left--) Check.same("undo()", x.undo(), left);
        });
        Sentence.of(18, "Throws IllegalStateException if none is remembered", () -> {
            Check.refuses("undo() of a new object", GripInspector::new, Check.STATE, GripInspector::undo);
            Check.refuses("undo() behind all of them", () -> {
                GripInspector x = Check.busy();
                for (int i = 0; i < 14; i++) x.undo();
                return x;
            }, Check.STATE, GripInspector::undo);
            Check.refuses("undo() behind load()", () -> Check.lift("L041020423g003"), Check.STATE, GripInspector::undo);
            Check.refuses("undo() behind restore()", () -> {
                GripInspector x = Check.busy();
                x.restore(0);
                return x;
            }, Check.STATE, GripInspector::undo);
        });
    }

    private static void whatIsAnAction() {
        Sentence.of("ACTIONS AND UNDO", "Each call of one of them that does not throw an exception is an action, also if "
            + "nothing becomes different (undo is none).", () -> {
            GripInspector x = new GripInspector();
            x.setRandom(0);
            x.setLimit(0, 10);
            x.setRandom(0);
            Check.same("undo() of an action without a difference", x.undo(), 2);
            Check.same("undo() of the next one", x.undo(), 1);
            Check.same("undo() of the first one", x.undo(), 0);
            Check.fails("undo() of no more", x, Check.STATE, x::undo);
            x.setRandom(1);
            x.setRandom(2);
            x.undo();
            x.undo();
            Check.same("random() behind two of undo()", x.random(), 0);
        });
    }

    private static void whatIsRemembered() {
        Sentence.of("ACTIONS AND UNDO", "Before each action, the state is remembered.", () -> {
            takesBack("step(99)", x -> x.step(99));
            takesBack("addGrip(3)", x -> x.addGrip(3));
            takesBack("putOn(2, 6)", x -> x.putOn(2, 6));
            takesBack("takeOff(1)", x -> x.takeOff(1));
            takesBack("scrap(0)", x -> x.scrap(0));
            takesBack("scrap(4)", x -> x.scrap(4));
            for (int i = 0; i <= 4; i++) {
                int what = i;
                takesBack("setLimit(" + i + ", 1)", x -> x.setLimit(what, 1));
            }
            takesBack("setRandom(greatest)", x -> x.setRandom(Long.MAX_VALUE));
        });
    }

    private static void takesBack(String call, java.util.function.ToLongFunction<GripInspector> action) {
        GripInspector x = Check.busy();
        String before = Check.face(x);
        Check.same(call, Check.outcome(() -> action.applyAsLong(x)).startsWith("throws"), false);
        Check.same(call + " makes a difference", Check.face(x).equals(before), false);
        Check.same("undo() of " + call, x.undo(), 13);
        Check.same("the state behind undo() of " + call, Check.face(x), before);
    }

    private static void fourteenStates() {
        Sentence.of("ACTIONS AND UNDO", "At most 14 states are remembered; when one more is remembered, the oldest one is "
            + "forgotten.", () -> {
            for (int actions : new int[] {1, 13, 14, 15, 16, 27, 28, 29, 43}) {
                GripInspector x = new GripInspector();
                for (int i = 1; i <= actions; i++) x.setRandom(i);
                int kept = Math.min(actions, 14);
                for (int i = 1; i <= kept; i++) {
                    Check.same("undo() behind " + actions + " actions", x.undo(), kept - i);
                    Check.same("random()", x.random(), actions - i);
                }
                Check.fails("undo() of a forgotten one", x, Check.STATE, x::undo);
            }
            GripInspector x = new GripInspector();
            for (int i = 1; i <= 20; i++) x.setRandom(i);
            for (int i = 0; i < 10; i++) x.undo();
            for (int i = 101; i <= 111; i++) x.setRandom(i);
            for (int i = 13; i >= 0; i--) Check.same("undo() of old and new ones", x.undo(), i);
            Check.same("random()", x.random(), 7);
            Check.fails("undo() of no more", x, Check.STATE, x::undo);
        });
    }

    private static void whatIsNotInTheState() {
        Sentence.of("ACTIONS AND UNDO", "n, the text and the save slots are not part of the state.", () -> {
            GripInspector x = Check.lift("L041020423h0");
            x.setRandom(1);
            x.append('h');
            x.save(0);
            x.undo();
            Check.same("append('0') behind undo()", x.append('0'), 14);
            Check.same("restore(0) behind undo()", x.restore(0), 0);
            Check.same("random()", x.random(), 1);
            x.append('x');
            x.setRandom(2);
            x.save(1);
            x.restore(0);
            Check.same("clearText() behind restore()", x.clearText(), 15);
            x.restore(1);
            Check.same("random() of the other save slot", x.random(), 2);
            Check.same("about(0)", x.about(0), 4);
        });
    }

    private static void whatIsNoAction() {
        Sentence.of("ACTIONS AND UNDO", "undo, load and restore are not actions.", () -> {
            GripInspector x = Check.busy();
            Check.same("undo()", x.undo(), 13);
            Check.same("undo() again", x.undo(), 12);
            x.load();
            Check.fails("undo() behind load()", x, Check.STATE, x::undo);
            x.setRandom(5);
            x.save(0);
            x.restore(0);
            Check.fails("undo() behind restore()", x, Check.STATE, x::undo);
        });
        Sentence.of("ACTIONS AND UNDO", "The methods in the section \"actions\" change the state", () -> {
            GripInspector x = Check.busy();
            x.append('h');
            x.clearText();
            x.save(0);
            x.save(1);
            Check.same("undo() behind other methods", x.undo(), 13);
            Check.same("random()", x.random(), 11);
        });
    }
}
