/** The sentences of EXCEPTIONS that bind several methods. */
final class ExceptionEdges {
    private ExceptionEdges() {
    }

    static void run() {
        indexes();
        whichIsFirst();
        nothingChanges();
    }

    private static GripInspector twelve() {
        return Check.lift("L201020413g019g000g001g002g003g004g005g006g007g008g009h0");
    }

    private static void indexes() {
        Sentence.of("EXCEPTIONS", "IndexOutOfBoundsException means that a slot or a grip does not exist, or that a save slot is "
            + "not 0 or 1.", () -> {
            GripInspector x = new GripInspector();
            Check.fails("slot(8)", x, Check.INDEX, () -> x.slot(8));
            Check.fails("grip(0, 0)", x, Check.INDEX, () -> x.grip(0, 0));
            Check.fails("save(2)", x, Check.INDEX, () -> x.save(2));
            Check.fails("restore(-1)", x, Check.INDEX, () -> x.restore(-1));
        });
    }

    private static void whichIsFirst() {
        Sentence.of("EXCEPTIONS", "If several exceptions apply to a call, the one that its description names first is thrown.",
            () -> {
                Check.refuses("append(256) to 60", () -> {
                    GripInspector x = new GripInspector();
                    Check.type(x, "h".repeat(60));
                    return x;
                }, Check.ARGUMENT, x -> x.append(256));
                Check.refuses("grip(6, 8)", Check::busy, Check.INDEX, x -> x.grip(6, 8));
                Check.refuses("addGrip(4) to twelve", ExceptionEdges::twelve, Check.ARGUMENT, x -> x.addGrip(4));
                Check.refuses("addGrip(-1) to twelve", ExceptionEdges::twelve, Check.ARGUMENT, x -> x.addGrip(-1));
                Check.refuses("putOn(0, 12) from the line", Check::busy, Check.INDEX, x -> x.putOn(0, 12));
                Check.refuses("putOn(4, -1) from the workshop", Check::busy, Check.INDEX, x -> x.putOn(4, -1));
                Check.refuses("putOn(6, 0) to a taken slot", Check::busy, Check.INDEX, x -> x.putOn(6, 0));
                Check.refuses("ahead(6, 100, 0)", Check::busy, Check.INDEX, x -> x.ahead(6, 100, 0));
                Check.refuses("ahead(-1, 0, 8)", Check::busy, Check.INDEX, x -> x.ahead(-1, 0, 8));
                Check.refuses("restore(2) of a new object", GripInspector::new, Check.INDEX, x -> x.restore(2));
            });
    }

    private static void nothingChanges() {
        Sentence.of("EXCEPTIONS", "A call that throws an exception changes nothing.", () -> {
            GripInspector x = Check.busy();
            String before = Check.state(x);
            for (int g = -1; g <= 6; g += 7) refuseAll(x, g);
            Check.same("the state", Check.state(x), before);
            Check.same("undo()", x.undo(), 13);
            Check.same("random()", x.random(), 11);
            Check.same("clearText()", x.clearText(), 28);
            Check.same("restore(0)", x.restore(0), 0);
        });
    }

    /** All actions in a row, each with an argument that is refused. */
    private static void refuseAll(GripInspector x, int g) {
        String[] answers = {Check.outcome(() -> x.append(256)), Check.outcome(() -> x.step(0)),
            Check.outcome(() -> x.addGrip(4)), Check.outcome(() -> x.putOn(g, 6)), Check.outcome(() -> x.putOn(2, 12)),
            Check.outcome(() -> x.putOn(2, 5)), Check.outcome(() -> x.takeOff(g)), Check.outcome(() -> x.takeOff(2)),
            Check.outcome(() -> x.scrap(g)), Check.outcome(() -> x.scrap(5)), Check.outcome(() -> x.setLimit(0, 100)),
            Check.outcome(() -> x.setLimit(5, 1)), Check.outcome(() -> x.save(2)), Check.outcome(() -> x.restore(2))};
        for (String answer : answers) Check.same("the answer of each", answer.startsWith("throws Ill")
            || answer.startsWith("throws Ind"), true);
    }
}
