/** Promise 11: step, in the order of the document's parts of a step. */
public final class StepTest {
    public static void main(String[] args) {
        station();
        randomState();
        duePassing();
        pickedPassing();
        slip();
        oldSlip();
        workshop();
        putting();
        puttingInTheSameStep();
        severalSteps();
        Check.end();
    }

    private static void station() {
        GripInspector x = Check.lift("L051020423");
        for (int i = 1; i <= 11; i++) {
            Check.same("step(1)", x.step(1), 0);
            Check.same("about(6)", x.about(6), i % 5);
            Check.same("about(7)", x.about(7), i);
        }
    }

    private static void randomState() {
        GripInspector x = new GripInspector();
        x.setRandom(-5);
        long state = -5;
        for (int i = 0; i < 20; i++) {
            x.step(1);
            state = Check.stateAfter(state);
            Check.same("random()", x.random(), state);
        }
        x.step(30);
        for (int i = 0; i < 30; i++) state = Check.stateAfter(state);
        Check.same("random() behind step(30)", x.random(), state);
    }

    private static void duePassing() {
        GripInspector x = Check.lift("L040250947g201");
        Check.same("step below the limit", Check.stepWith(x, 1), 0);
        Check.same("grip(0, ..)", Check.grip(x, 0), "2 1 3 0 -9 0 1 -9");
        x.step(3);
        Check.same("step to the limit", Check.stepWith(x, 16 * 2), 1);
        Check.same("grip(0, ..)", Check.grip(x, 0), "2 2 6 1 3 2 -9 7");
        GripInspector y = Check.lift("L040550947g001");
        Check.stepWith(y, 1);
        Check.same("grip(0, ..)", Check.grip(y, 0), "0 1 1 0 -9 0 1 -9");
        y.setLimit(0, 1);
        y.step(3);
        Check.same("step above the limit", Check.stepWith(y, 9), 1);
        Check.same("grip(0, ..)", Check.grip(y, 0), "0 2 2 1 0 2 -9 7");
    }

    private static void pickedPassing() {
        for (int rate = 1; rate <= 9; rate++) {
            for (int r = 0; r <= 20; r++) {
                GripInspector x = Check.lift("L049950423g001");
                x.setLimit(2, rate);
                Check.stepWith(x, r);
                Check.same("pulls with the rate " + rate + " and " + r, x.grip(0, 3), r % rate == 0 ? 1 : 0);
                Check.same("the place then", x.grip(0, 5), 0);
            }
        }
        GripInspector x = Check.lift("L049950723g001");
        Check.stepWith(x, Integer.MAX_VALUE);
        Check.same("pulls with the greatest r", x.grip(0, 3), Integer.MAX_VALUE % 7 == 0 ? 1 : 0);
        GripInspector y = Check.lift("L049950423g002");
        Check.stepWith(y, 0);
        Check.same("grip(0, ..) that does not pass", Check.grip(y, 0), "0 0 0 0 -9 0 2 -9");
    }

    private static void slip() {
        for (int weight = 0; weight <= 3; weight++) {
            GripInspector x = Check.lift("L049902125g" + weight + "01");
            for (int pass = 1; pass <= 2; pass++) {
                int r = 16 * (pass == 1 ? 5 : 11) + 15;
                Check.stepWith(x, r);
                int slip = pass * (1 + weight) / 4 + (pass == 1 ? 0 : 1);
                Check.same("the slip", x.grip(0, 4), slip);
                Check.same("the place with the slip " + slip, x.grip(0, 5), slip > 2 ? 2 : 0);
                x.step(3);
            }
        }
        GripInspector x = Check.lift("L049903125g001");
        Check.stepWith(x, 16 * 4);
        Check.same("grip(0, ..) slipping", Check.grip(x, 0), "0 1 1 1 4 2 -9 5");
        GripInspector y = Check.lift("L049903125g001");
        Check.stepWith(y, 16 * 3);
        Check.same("grip(0, ..) at the limit", Check.grip(y, 0), "0 1 1 1 3 0 1 -9");
    }

    /** A grip that is not pulled is not tested, also if it slipped when it was pulled the last time. */
    private static void oldSlip() {
        GripInspector x = Check.lift("L049904923g001");
        Check.stepWith(x, 16 * 9);
        Check.same("the slip", x.grip(0, 4), 4);
        x.setLimit(1, 1);
        x.step(3);
        Check.stepWith(x, 1);
        Check.same("grip(0, ..)", Check.grip(x, 0), "0 2 2 1 4 0 1 -9");
        x.step(3);
        Check.stepWith(x, 0);
        Check.same("grip(0, ..) pulled again", Check.grip(x, 0), "0 3 3 2 0 0 1 -9");
    }

    private static void workshop() {
        GripInspector x = Check.lift("L040120443g101g300");
        Check.same("step(1)", x.step(1), 1);
        Check.same("grip(0, 7)", x.grip(0, 7), 3);
        x.setLimit(4, 1);
        Check.same("step(1)", x.step(1), 1);
        Check.same("grip(0, ..)", Check.grip(x, 0), "1 1 2 1 " + x.grip(0, 4) + " 2 -9 2");
        x.step(1);
        Check.same("grip(0, 7)", x.grip(0, 7), 1);
        int slip = x.grip(0, 4);
        Check.same("step(1) to slot 0", x.step(1), 1);
        Check.same("grip(1, ..) with the new time", x.grip(1, 7), 1);
        Check.same("grip(0, ..) repaired and put on at once", Check.grip(x, 0), "1 0 0 1 " + slip + " 0 0 -9");
        x.setLimit(3, 4);
        Check.same("step(1) to slot 1", x.step(1), 0);
        Check.same("grip(1, ..) in the garage", Check.grip(x, 1), "3 0 0 1 " + x.grip(1, 4) + " 1 -9 -9");
    }

    private static void putting() {
        GripInspector x = Check.lift("L089950923g105h0h0h0");
        Check.same("step(1) to slot 1", x.step(1), 0);
        Check.same("report", Check.report(x), "a@5 b@1 cg dg");
        x.step(1);
        Check.same("report with a distance below 2", Check.report(x), "a@5 b@1 cg dg");
        x.step(1);
        Check.same("report with a distance of 2", Check.report(x), "a@5 b@1 c@3 dg");
        x.step(3);
        Check.same("report behind slot 6", Check.report(x), "a@5 b@1 c@3 dg");
        x.step(1);
        Check.same("report with a distance over slot 0", Check.report(x), "a@5 b@1 c@3 d@7");
        GripInspector y = Check.lift("L049950943h0");
        y.step(1);
        Check.same("report of an empty line", Check.report(y), "a@1");
        GripInspector z = Check.lift("L209950943g000h0h0h0h0h0h0h0");
        z.step(20);
        Check.same("report with the spacing 4", Check.report(z), "a@0 b@4 c@8 d@12 e@16 fg gg hg");
        GripInspector one = Check.lift("L049950913g002h0h0h0h0");
        one.step(4);
        Check.same("report with the spacing 1", Check.report(one), "a@2 b@1 c@3 d@0 eg");
        GripInspector last = Check.lift("L209950913g002g003g004g005g006g007g008g009g010g011g012h0");
        last.step(1);
        Check.same("the slot of the twelfth grip", last.grip(11, 6), 1);
    }

    private static void puttingInTheSameStep() {
        GripInspector x = Check.lift("L040150923g001h2");
        Check.same("step(1)", x.step(1), 1);
        Check.same("report", Check.report(x), "aw3 b@1");
        GripInspector alone = Check.lift("L040150921g001");
        Check.same("step(1)", alone.step(1), 1);
        Check.same("report", Check.report(alone), "aw1");
        Check.same("step(1)", alone.step(1), 0);
        Check.same("report", Check.report(alone), "a@2");
    }

    private static void severalSteps() {
        GripInspector x = Check.lift("L100520433g100g303h2h0g207");
        GripInspector y = Check.lift("L100520433g100g303h2h0g207");
        for (int m = 1; m <= 99; m += 14) {
            int workshop = x.step(m);
            for (int i = 0; i < m; i++) y.step(1);
            Check.same("the state behind step(" + m + ")", Check.state(x), Check.state(y));
            Check.same("step(" + m + ")", workshop, y.about(4));
        }
        GripInspector z = new GripInspector();
        z.step(99);
        Check.same("undo()", z.undo(), 0);
        Check.same("about(7)", z.about(7), 0);
    }
}
