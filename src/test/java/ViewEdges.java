/** The boundary sentences of LINE AND GRIPS, of promises 6 to 10 and of the report in TEXTS. */
final class ViewEdges {
    private static final String FULL = "L201050913g019g000g001g002g003g004g005g006g007g008g009g010";

    private ViewEdges() {
    }

    static void run() {
        slotsAndGrips();
        placesOfGrips();
        distances();
        about();
        grip();
        gripsWithoutSuchNumber();
        slot();
        random();
        report();
    }

    private static void slotsAndGrips() {
        Sentence.of("LINE AND GRIPS", "The rope has n slots, 4 to 20, numbered from 0, in a ring.", () -> {
            for (int n : new int[] {4, 5, 19, 20}) {
                GripInspector x = Check.lift(String.format("L%02d1020423g0%02d", n, n - 1));
                Check.same("slot(" + (n - 1) + ") of " + n, x.slot(n - 1), 0);
                Check.fails("slot(" + n + ") of " + n, x, Check.INDEX, () -> x.slot(n));
                Check.same("gap(0) in the ring", x.gap(0), n);
            }
            Check.same("errorPosition() of n = 3", typedError("L031020423"), 2);
            Check.same("errorPosition() of n = 21", typedError("L211020423"), 2);
        });
        Sentence.of("LINE AND GRIPS", "There are at most 12 grips, numbered from 0 in the order in which they came.", () -> {
            GripInspector x = Check.lift("L081020423h3g204h1g000h0");
            Check.same("the weights", x.grip(0, 0) * 1000 + x.grip(1, 0) * 100 + x.grip(2, 0) * 10 + x.grip(4, 0), 3210);
            x.scrap(4);
            for (int g = 5; g <= 11; g++) Check.same("addGrip(1)", x.addGrip(1), g);
            Check.fails("addGrip(1) of a thirteenth", x, Check.STATE, () -> x.addGrip(1));
            Check.same("about(1)", x.about(1), 12);
        });
        Sentence.of("LINE AND GRIPS", "A grip has a weight from 0 to 3", () -> {
            GripInspector x = Check.lift("L081020423g000h3");
            Check.same("grip(0, 0)", x.grip(0, 0), 0);
            Check.same("grip(1, 0)", x.grip(1, 0), 3);
            Check.same("grip(2, 0)", x.grip(x.addGrip(0), 0), 0);
            Check.same("grip(3, 0)", x.grip(x.addGrip(3), 0), 3);
        });
        Sentence.of("LINE AND GRIPS", "A new grip has 0 cycles, 0 wear, 0 pulls and no last slip.", () -> {
            GripInspector x = Check.lift("L040120121g101");
            Check.same("grip(0, ..) of the text", Check.grip(x, 0), "1 0 0 0 -9 0 1 -9");
            x.addGrip(3);
            x.step(9);
            Check.same("pulls of grip 1", x.grip(1, 3) > 0, true);
            x.undo();
            x.undo();
            Check.same("addGrip(2) in its place", x.addGrip(2), 1);
            Check.same("grip(1, ..)", Check.grip(x, 1), "2 0 0 0 -9 1 -9 -9");
        });
    }

    private static void placesOfGrips() {
        Sentence.of("LINE AND GRIPS", "scrapped for ever", () -> {
            GripInspector x = Check.lift("L049950111g001h0");
            x.scrap(0);
            x.scrap(1);
            x.step(99);
            Check.same("the report behind 99 steps", Check.report(x), "ax bx");
            Check.fails("putOn(0, 2)", x, Check.STATE, () -> x.putOn(0, 2));
            Check.fails("takeOff(0)", x, Check.STATE, () -> x.takeOff(0));
            Check.fails("scrap(0)", x, Check.STATE, () -> x.scrap(0));
            GripInspector y = Check.lift("L040150111g001");
            y.step(1);
            y.scrap(0);
            y.step(99);
            Check.same("the report of one out of the workshop", Check.report(y), "ax");
        });
        Sentence.of("LINE AND GRIPS", "A slot has at most one grip.", () -> {
            GripInspector x = Check.lift("L049950913g001h0");
            Check.fails("putOn(1, 1)", x, Check.STATE, () -> x.putOn(1, 1));
            Check.stepWith(x, 1);
            Check.same("the report behind a step", Check.report(x), "a@1 bg");
            Check.same("errorPosition() of a slot twice", typedError("L049950913g001g001"), 17);
        });
        Sentence.of("LINE AND GRIPS", "There are a limit of cycles, 1 to 99, a limit of slip, 1 to 50, a rate, 1 to 9, "
            + "a spacing, 1 to 4, and the time of the workshop, 1 to 9.", () -> {
            int[] greatest = {99, 50, 9, 4, 9};
            for (int i = 0; i < 5; i++) {
                int what = i;
                GripInspector x = new GripInspector();
                x.setLimit(what, 1);
                Check.same("about(" + (8 + what) + ")", x.about(8 + what), 1);
                x.setLimit(what, greatest[what]);
                Check.same("about(" + (8 + what) + ")", x.about(8 + what), greatest[what]);
                Check.fails("the number 0", x, Check.ARGUMENT, () -> x.setLimit(what, 0));
                Check.fails("one more", x, Check.ARGUMENT, () -> x.setLimit(what, greatest[what] + 1));
            }
        });
    }

    private static int typedError(String text) {
        GripInspector x = new GripInspector();
        Check.type(x, text);
        return x.errorPosition();
    }

    private static void distances() {
        Sentence.of("LINE AND GRIPS", "The distance of two slots is the smaller number of slots that one goes from one to "
            + "the other in one of both directions of the ring.", () -> {
            takes(8, 4, 0, 4, true);
            takes(8, 4, 0, 3, false);
            takes(8, 4, 0, 5, false);
            takes(9, 4, 8, 3, true);
            takes(9, 4, 8, 4, true);
            takes(9, 4, 8, 2, false);
            takes(9, 4, 8, 5, false);
            takes(20, 2, 19, 0, false);
            takes(20, 2, 19, 1, true);
            takes(20, 2, 0, 19, false);
            takes(20, 2, 0, 18, true);
            takes(20, 1, 0, 19, true);
            takes(4, 3, 0, 2, false);
            takes(4, 2, 3, 1, true);
        });
    }

    private static void takes(int n, int spacing, int there, int slot, boolean due) {
        GripInspector x = Check.lift(String.format("L%02d10204%d3g0%02dh0", n, spacing, there));
        String answer = Check.outcome(() -> x.putOn(1, slot));
        Check.same("putOn(1, " + slot + ") of " + n + " with the spacing " + spacing + " and one at " + there, answer,
            due ? "2" : "throws IllegalStateException");
    }

    private static void about() {
        Sentence.of(6, "what: 0: n; 1: the number of grips; 2: of those on the line; 3: in the garage; 4: in the workshop; "
            + "5: scrapped; 6: the station; 7: the clock; 8: the limit of cycles; 9: the limit of slip; 10: the rate; "
            + "11: the spacing; 12: the time of the workshop", () -> {
            Check.same("about(..) of nothing", Check.about(Check.lift("L040101111")), "4 0 0 0 0 0 0 0 1 1 1 1 1");
            GripInspector x = Check.lift(FULL);
            Check.same("about(..) of a full line", Check.about(x), "20 12 12 0 0 0 0 0 10 50 9 1 3");
            for (int g = 0; g < 12; g++) x.takeOff(g);
            Check.same("about(..) of a full garage", Check.about(x), "20 12 0 12 0 0 0 0 10 50 9 1 3");
            for (int g = 0; g < 12; g++) x.scrap(g);
            x.step(99);
            Check.same("about(..) of scrapped ones", Check.about(x), "20 12 0 0 0 12 19 99 10 50 9 1 3");
            GripInspector y = Check.lift("L200150949g001g002g003g004g005g006g007g008g009");
            Check.same("step(9)", y.step(9), 9);
            Check.same("about(..) of a full workshop", Check.about(y), "20 9 0 0 9 0 9 9 1 50 9 4 9");
            Check.same("about(..) of each place", Check.about(Check.busy()), "12 6 2 2 1 1 1 1 50 50 9 3 9");
        });
        Sentence.of(6, "Throws IllegalArgumentException if what is not 0 to 12", () ->
            Check.refusesBeside(0, 12, "about", Check::busy, Check.ARGUMENT, (x, what) -> x.about(what)));
    }

    private static void grip() {
        Sentence.of(7, "4: its last slip (NONE if there is none)", () -> {
            GripInspector x = Check.lift("L049950923g001");
            Check.same("grip(0, 4) at first", x.grip(0, 4), Check.NONE);
            Check.stepWith(x, 1);
            Check.same("grip(0, 4) not pulled", x.grip(0, 4), Check.NONE);
            x.step(3);
            Check.stepWith(x, 0);
            Check.same("grip(0, 4) pulled with the slip 0", x.grip(0, 4), 0);
        });
        Sentence.of(7, "5: where it is: 0 on the line, 1 in the garage, 2 in the workshop, 3 scrapped", () -> {
            GripInspector x = Check.busy();
            for (int g = 0; g < 6; g++) Check.same("grip(" + g + ", 5)", x.grip(g, 5), "001123".charAt(g) - '0');
        });
        Sentence.of(7, "6: its slot (NONE if it is not on the line)", () -> {
            GripInspector x = Check.busy();
            int[] due = {0, 3, Check.NONE, Check.NONE, Check.NONE, Check.NONE};
            for (int g = 0; g < 6; g++) Check.same("grip(" + g + ", 6)", x.grip(g, 6), due[g]);
            x.takeOff(1);
            Check.same("grip(1, 6) behind takeOff", x.grip(1, 6), Check.NONE);
            Check.same("grip(0, 6) of the last slot", Check.lift(FULL).grip(0, 6), 19);
        });
        Sentence.of(7, "7: the steps that are left in the workshop (NONE if it is not there)", () -> {
            GripInspector x = Check.busy();
            int[] due = {Check.NONE, Check.NONE, Check.NONE, Check.NONE, 9, Check.NONE};
            for (int g = 0; g < 6; g++) Check.same("grip(" + g + ", 7)", x.grip(g, 7), due[g]);
            x.step(8);
            Check.same("grip(4, 7) at the end", x.grip(4, 7), 1);
            x.step(1);
            Check.same("grip(4, 7) behind the workshop", x.grip(4, 7), Check.NONE);
            GripInspector y = Check.busy();
            y.scrap(4);
            Check.same("grip(4, 7) of a scrapped one", y.grip(4, 7), Check.NONE);
        });
    }

    private static void gripsWithoutSuchNumber() {
        Sentence.of(7, "g: grip", () -> {
            GripInspector x = Check.lift("L041020423h3h0h0h0h0h0h0h0h0h0h0h1");
            Check.same("grip(0, 0)", x.grip(0, 0), 3);
            Check.same("grip(11, 0)", x.grip(11, 0), 1);
        });
        Sentence.of(7, "Throws IndexOutOfBoundsException if there is no such grip", () -> {
            Check.refusesBeside(0, 5, "grip(.., 0)", Check::busy, Check.INDEX, (x, g) -> x.grip(g, 0));
            Check.refusesBeside(0, 11, "grip(.., 0) of twelve", () -> Check.lift(FULL), Check.INDEX, (x, g) -> x.grip(g, 0));
            Check.refuses("grip(0, 0) without grips", GripInspector::new, Check.INDEX, x -> x.grip(0, 0));
            GripInspector x = new GripInspector();
            x.addGrip(0);
            x.undo();
            Check.fails("grip(0, 0) of one taken back", x, Check.INDEX, () -> x.grip(0, 0));
        });
        Sentence.of(7, "Throws IllegalArgumentException if what is not 0 to 7", () ->
            Check.refusesBeside(0, 7, "grip(0, ..)", Check::busy, Check.ARGUMENT, (x, what) -> x.grip(0, what)));
    }

    private static void slot() {
        Sentence.of(8, "i: slot", () -> {
            GripInspector x = Check.lift(FULL);
            Check.same("slot(0)", x.slot(0), 1);
            Check.same("slot(19)", x.slot(19), 0);
        });
        Sentence.of(8, "Returns the grip; NONE if there is none.", () -> {
            GripInspector x = Check.lift(FULL);
            Check.same("slot(11)", x.slot(11), Check.NONE);
            x.takeOff(0);
            Check.same("slot(19) behind takeOff", x.slot(19), Check.NONE);
            x.scrap(1);
            Check.same("slot(0) behind scrap", x.slot(0), Check.NONE);
            GripInspector y = Check.busy();
            Check.same("slot(1) of one in the workshop", y.slot(1), Check.NONE);
            for (int i = 0; i < 8; i++) Check.same("slot(" + i + ")", new GripInspector().slot(i), Check.NONE);
        });
        Sentence.of(8, "Throws IndexOutOfBoundsException if there is no such slot", () -> {
            Check.refusesBeside(0, 11, "slot", Check::busy, Check.INDEX, (x, i) -> x.slot(i));
            Check.refusesBeside(0, 3, "slot of 4", () -> Check.lift("L041020423"), Check.INDEX, (x, i) -> x.slot(i));
            Check.refusesBeside(0, 19, "slot of 20", () -> Check.lift(FULL), Check.INDEX, (x, i) -> x.slot(i));
        });
    }

    private static void random() {
        Sentence.of(9, "Returns the random state.", () -> {
            GripInspector x = new GripInspector();
            for (long state : new long[] {Long.MAX_VALUE, Long.MIN_VALUE, -1, 0, 1L << 32}) {
                x.setRandom(state);
                Check.same("random()", x.random(), state);
            }
        });
    }

    private static void report() {
        Sentence.of(10, "i: 0 or greater", () -> {
            GripInspector x = Check.busy();
            Check.same("report(0)", x.report(0), 'a');
            Check.same("report(greatest)", x.report(Integer.MAX_VALUE), Check.NONE);
        });
        Sentence.of(10, "Returns its code; NONE if the report has not so many characters.", () -> {
            GripInspector x = Check.busy();
            Check.same("the report", Check.report(x), "a@0 b@3 cg dg ew9 fx");
            Check.same("report(19)", x.report(19), 'x');
            Check.same("report(20)", x.report(20), Check.NONE);
            Check.same("report(56) of the longest", longest().report(56), '9');
            Check.same("report(57) of the longest", longest().report(57), Check.NONE);
        });
        Sentence.of(10, "Throws IllegalArgumentException if i is negative", () -> {
            Check.refuses("report(-1)", Check::busy, Check.ARGUMENT, x -> x.report(-1));
            Check.refuses("report(smallest)", Check::busy, Check.ARGUMENT, x -> x.report(Integer.MIN_VALUE));
            Check.refuses("report(-1) of nothing", GripInspector::new, Check.ARGUMENT, x -> x.report(-1));
        });
        Sentence.of("TEXTS", "its letter (a for grip 0, and so on)", () ->
            Check.same("the report", Check.report(longest()), "a@10 b@11 c@12 d@13 e@14 f@15 g@16 h@17 i@18 j@19 k@0 l@9"));
        Sentence.of("TEXTS", "\"@\" and its slot as a number for one on the line, \"g\" for one in the garage, \"w\" and the "
            + "steps that are left for one in the workshop, or \"x\" for one that is scrapped", () -> {
            Check.same("the report of slots", Check.report(Check.lift("L201020423g019g010g009g000")), "a@19 b@10 c@9 d@0");
            GripInspector x = Check.lift("L100150949g001h0g009");
            x.scrap(2);
            x.step(1);
            Check.same("the report with a full time", Check.report(x), "aw9 b@1 cx");
            x.takeOff(1);
            x.setLimit(3, 1);
            x.step(8);
            Check.same("the report with the last step", Check.report(x), "aw1 b@2 cx");
            x.takeOff(1);
            Check.same("the report behind takeOff", Check.report(x), "aw1 bg cx");
        });
        Sentence.of("TEXTS", "the parts are separated by one blank", () -> {
            Check.same("the report of one", Check.report(Check.lift("L041020423h0")), "ag");
            Check.same("the report of two", Check.report(Check.lift("L041020423h0g003")), "ag b@3");
        });
        Sentence.of("TEXTS", "(Without grips it is empty.)", () -> {
            Check.same("report(0)", new GripInspector().report(0), Check.NONE);
            GripInspector x = new GripInspector();
            x.addGrip(0);
            Check.report(x);
            x.undo();
            Check.same("report(0) behind undo()", x.report(0), Check.NONE);
        });
    }

    private static GripInspector longest() {
        return Check.lift("L201020423g010g011g012g013g014g015g016g017g018g019g000g009");
    }
}
