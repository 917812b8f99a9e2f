import java.math.BigInteger;

/** The boundary sentences of A STEP, part by part, and of promise 11. */
final class StepEdges {
    private static final int GREATEST_R = Integer.MAX_VALUE;

    private StepEdges() {
    }

    static void run() {
        station();
        randomState();
        passing();
        due();
        picked();
        slip();
        withdrawn();
        greatestSlip();
        workshop();
        repaired();
        emptySlot();
        spacing();
        chosen();
        clock();
        numberOfSteps();
    }

    private static void station() {
        Sentence.of("A STEP", "The station goes on to the next slot (after the last one comes slot 0).", () -> {
            for (int n : new int[] {4, 8, 20}) {
                GripInspector x = Check.lift(String.format("L%02d1020423", n));
                for (int i = 1; i <= 2 * n + 1; i++) {
                    x.step(1);
                    Check.same("about(6) behind " + i + " steps of " + n, x.about(6), i % n);
                }
            }
        });
    }

    private static void randomState() {
        Sentence.of("A STEP", "x * 6364136223846793005L + 1442695040888963407L (with long overflow)", () -> {
            for (long state : new long[] {0, 1, -1, Long.MAX_VALUE, Long.MIN_VALUE}) {
                GripInspector x = new GripInspector();
                x.setRandom(state);
                x.step(1);
                long due = BigInteger.valueOf(state).multiply(new BigInteger("6364136223846793005"))
                    .add(new BigInteger("1442695040888963407")).longValue();
                Check.same("random() behind " + state, x.random(), due);
            }
        });
        Sentence.of("A STEP", "r is (int) (x >>> 33).", () -> {
            Check.same("grip(0, 4) with the greatest r", slipOf(-1), GREATEST_R / 16 % 5);
            Check.same("grip(0, 4) with the highest bit alone", slipOf(Long.MIN_VALUE), (1 << 30) / 16 % 5);
            Check.same("grip(0, 4) with all bits below r", slipOf((1L << 33) - 1), 0);
            Check.same("grip(0, 4) with r = 16", slipOf(16L << 33), 1);
            Check.same("grip(0, 4) with r = 15 and all bits below", slipOf((16L << 33) - 1), 0);
        });
    }

    /** The first slip of a grip that is picked when the random state has become x. */
    private static int slipOf(long x) {
        GripInspector lift = Check.lift("L049950123g001");
        lift.setRandom(Check.stateThatMakes(x));
        lift.step(1);
        Check.same("random()", lift.random(), x);
        return lift.grip(0, 4);
    }

    private static void passing() {
        Sentence.of("A STEP", "If a grip is at the station: its cycles increase by 1, and its wear by 1 plus its weight.", () -> {
            GripInspector x = Check.lift("L049950943g003g300g102h2");
            Check.stepWith(x, 1);
            for (int g = 0; g < 4; g++) Check.same("cycles and wear of " + g, x.grip(g, 1) + x.grip(g, 2), 0);
            Check.stepWith(x, 1);
            Check.same("grip(2, ..)", Check.grip(x, 2), "1 1 2 0 -9 0 2 -9");
            Check.stepWith(x, 1);
            Check.same("grip(0, ..) of the weight 0", Check.grip(x, 0), "0 1 1 0 -9 0 3 -9");
            Check.stepWith(x, 1);
            Check.same("grip(1, ..) of the weight 3", Check.grip(x, 1), "3 1 4 0 -9 0 0 -9");
            Check.same("grip(3, ..) in the garage", Check.grip(x, 3), "2 0 0 0 -9 1 -9 -9");
        });
    }

    /** A lift of 4 slots whose one grip has made some passes and makes the next one at the next step. */
    private static GripInspector passed(int passes) {
        GripInspector x = Check.lift("L049950943g001");
        for (int i = 0; i < passes; i++) x.step(4);
        return x;
    }

    private static void passes(int before, int limit, boolean due) {
        GripInspector x = passed(before);
        x.setLimit(0, limit);
        Check.same("the cycles before", x.grip(0, 1), before);
        int pulls = x.grip(0, 3);
        Check.same("step(1) with " + (before + 1) + " cycles and the limit " + limit, Check.stepWith(x, 1), due ? 1 : 0);
        Check.same("the pulls then", x.grip(0, 3) - pulls, due ? 1 : 0);
        Check.same("grip(0, 5)", x.grip(0, 5), due ? 2 : 0);
    }

    private static void due() {
        Sentence.of("A STEP", "If its cycles are at least the limit of cycles, it is due", () -> {
            passes(0, 1, true);
            passes(0, 2, false);
            passes(1, 2, true);
            passes(2, 2, true);
            passes(8, 10, false);
            passes(9, 10, true);
            passes(20, 10, true);
            passes(97, 99, false);
            passes(98, 99, true);
        });
    }

    private static void picked() {
        Sentence.of("A STEP", "otherwise, if r % rate is 0, it is picked.", () -> {
            for (int rate = 1; rate <= 9; rate++) {
                for (int r : new int[] {0, 1, rate - 1, rate, rate + 1, 2 * rate, GREATEST_R, GREATEST_R - 1}) {
                    GripInspector x = Check.lift("L049950943g001");
                    x.setLimit(2, rate);
                    Check.stepWith(x, r);
                    Check.same("pulls with the rate " + rate + " and r = " + r, x.grip(0, 3), r % rate == 0 ? 1 : 0);
                }
            }
            GripInspector x = Check.lift("L040150143g001");
            Check.stepWith(x, 0);
            Check.same("pulls of one that is due and would be picked", x.grip(0, 3), 1);
        });
    }

    private static void slip() {
        Sentence.of("A STEP", "A grip that is due or picked is pulled: its pulls increase by 1, and its last slip is wear / 4 "
            + "(rounded down) plus r / 16 % 5.", () -> {
            for (int wear = 1; wear <= 8; wear++) {
                GripInspector x = Check.lift("L049950143g001");
                for (int i = 1; i < wear; i++) x.step(4);
                Check.stepWith(x, 15);
                Check.same("grip(0, ..) with the wear " + wear, Check.grip(x, 0),
                    "0 " + wear + " " + wear + " " + wear + " " + wear / 4 + " 0 1 -9");
            }
            int[] rs = {0, 15, 16, 31, 32, 63, 64, 79, 80, 95, 96};
            int[] slips = {0, 0, 1, 1, 2, 3, 4, 4, 0, 0, 1};
            for (int i = 0; i < rs.length; i++) {
                GripInspector x = Check.lift("L049950143g001");
                Check.stepWith(x, rs[i]);
                Check.same("grip(0, 4) with r = " + rs[i], x.grip(0, 4), slips[i]);
                GripInspector y = Check.lift("L040150943g001");
                Check.stepWith(y, rs[i]);
                Check.same("grip(0, 4) of one that is due with r = " + rs[i], y.grip(0, 4), slips[i]);
            }
        });
    }

    private static void withdrawn() {
        Sentence.of("A STEP", "If it is due, or its last slip is greater than the limit of slip, it is withdrawn: it goes to "
            + "the workshop, with the time of the workshop as steps left.", () -> {
            for (int time : new int[] {1, 9}) {
                GripInspector x = Check.lift("L04990114" + time + "g001");
                Check.same("step(1) with the limit of slip", Check.stepWith(x, 16), 0);
                Check.same("grip(0, ..)", Check.grip(x, 0), "0 1 1 1 1 0 1 -9");
                GripInspector y = Check.lift("L04990114" + time + "g001");
                Check.same("step(1) with one more", Check.stepWith(y, 32), 1);
                Check.same("grip(0, ..)", Check.grip(y, 0), "0 1 1 1 2 2 -9 " + time);
                GripInspector z = Check.lift("L04015094" + time + "g001");
                Check.same("step(1) of one that is due and does not slip", Check.stepWith(z, 0), 1);
                Check.same("grip(0, ..)", Check.grip(z, 0), "0 1 1 1 0 2 -9 " + time);
            }
            GripInspector x = Check.lift("L049904943g001");
            Check.stepWith(x, 9 * 16);
            x.setLimit(1, 1);
            x.step(3);
            Check.same("step(1) of one that slipped once and is not pulled", Check.stepWith(x, 1), 0);
        });
    }

    /** The weight 3 makes the wear four times the passes, so that the slip is the passes and what r adds. */
    private static void greatestSlip() {
        Sentence.of("LINE AND GRIPS", "a limit of slip, 1 to 50", () -> {
            GripInspector x = Check.lift("L049950143g301");
            for (int i = 0; i < 2; i++) x.step(90);
            Check.same("the cycles", x.grip(0, 1), 45);
            Check.same("step(1) with the slip 50", Check.stepWith(x, 64), 0);
            Check.same("grip(0, ..)", Check.grip(x, 0), "3 46 184 46 50 0 1 -9");
            x.step(3);
            Check.same("step(1) with the slip 51", Check.stepWith(x, 64), 1);
            Check.same("grip(0, ..)", Check.grip(x, 0), "3 47 188 47 51 2 -9 3");
        });
    }

    private static void workshop() {
        Sentence.of("A STEP", "For each other grip in the workshop (one that was there before this step), the steps that are "
            + "left decrease by 1", () -> {
            GripInspector x = Check.lift("L080150943g001g002g003g204");
            String[] due = {"aw3 b@2 c@3 d@4", "aw2 bw3 c@3 d@4", "aw1 bw2 cw3 d@4"};
            for (String report : due) {
                Check.stepWith(x, 1);
                Check.same("the report", Check.report(x), report);
            }
            x.setLimit(4, 9);
            Check.same("step(1)", Check.stepWith(x, 1), 3);
            Check.same("the report with another time", Check.report(x), "a@4 bw1 cw2 dw9");
            GripInspector y = Check.lift("L040150941g001g000");
            Check.same("step(1) with the time 1", y.step(1), 1);
            Check.same("the report", Check.report(y), "aw1 b@0");
        });
    }

    private static void repaired() {
        Sentence.of("A STEP", "at 0 its cycles and its wear become 0 (its pulls and its last slip stay), and it goes to the "
            + "garage (part 4 can put it on the line at once).", () -> {
            GripInspector x = Check.lift("L040150942g301");
            Check.stepWith(x, 64);
            Check.same("grip(0, ..)", Check.grip(x, 0), "3 1 4 1 5 2 -9 2");
            x.step(1);
            Check.same("grip(0, ..) with one step left", Check.grip(x, 0), "3 1 4 1 5 2 -9 1");
            Check.same("step(1)", x.step(1), 0);
            Check.same("grip(0, ..) put on at once", Check.grip(x, 0), "3 0 0 1 5 0 3 -9");
            GripInspector y = Check.lift("L040150941g301g002");
            Check.stepWith(y, 64);
            y.setLimit(0, 99);
            Check.same("step(1) to a slot with a grip", y.step(1), 0);
            Check.same("grip(0, ..) in the garage", Check.grip(y, 0), "3 0 0 1 5 1 -9 -9");
        });
    }

    private static void emptySlot() {
        Sentence.of("A STEP", "If the slot at the station is empty", () -> {
            GripInspector x = Check.lift("L049950913g001h0");
            Check.stepWith(x, 1);
            Check.same("the report with a grip there", Check.report(x), "a@1 bg");
            Check.stepWith(x, 1);
            Check.same("the report without one", Check.report(x), "a@1 b@2");
            GripInspector y = Check.lift("L040150943g001h0");
            Check.stepWith(y, 1);
            Check.same("the report of a slot that has just become empty", Check.report(y), "aw3 b@1");
        });
    }

    private static void spacing() {
        Sentence.of("A STEP", "every grip on the line has a distance from it of at least the spacing", () -> {
            for (int spacing = 1; spacing <= 4; spacing++) {
                for (int there = 0; there < 9; there++) {
                    GripInspector x = Check.lift("L0999509" + spacing + "3g00" + there + "h0");
                    x.step(1);
                    int distance = Math.min(Math.abs(there - 1), 9 - Math.abs(there - 1));
                    Check.same("grip(1, 6) with the spacing " + spacing + " and one at " + there, x.grip(1, 6),
                        distance >= spacing ? 1 : Check.NONE);
                }
            }
            GripInspector x = Check.lift("L099950923h0g003g008");
            x.step(1);
            Check.same("grip(0, 6) between two", x.grip(0, 6), 1);
            GripInspector y = Check.lift("L099950933h0g004g008");
            y.step(1);
            Check.same("grip(0, 6) too near to one of two", y.grip(0, 6), Check.NONE);
            GripInspector z = Check.lift("L049950943h0");
            z.step(1);
            Check.same("grip(0, 6) on an empty line", z.grip(0, 6), 1);
        });
    }

    /** Grips 0 to 3 come to the garage with 2, 1, 1 and 2 cycles, and the station is at slot 0. */
    private static GripInspector garage() {
        GripInspector x = Check.lift("L049950943g000g001g002g003");
        x.step(4);
        x.takeOff(1);
        x.takeOff(2);
        x.step(4);
        x.takeOff(0);
        x.takeOff(3);
        return x;
    }

    private static void chosen() {
        Sentence.of("A STEP", "the grip in the garage with the fewest cycles (among several the smallest number) is put there, "
            + "if there is one in the garage.", () -> {
            GripInspector x = garage();
            x.step(1);
            Check.same("the report of four", Check.report(x), "ag b@1 cg dg");
            x = garage();
            x.scrap(1);
            x.step(1);
            Check.same("the report of three", Check.report(x), "ag bx c@1 dg");
            x.scrap(2);
            x.step(1);
            Check.same("the report of two", Check.report(x), "a@2 bx cx dg");
            GripInspector y = garage();
            for (int g = 0; g < 3; g++) y.scrap(g);
            y.step(1);
            Check.same("the report of one", Check.report(y), "ax bx cx d@1");
            GripInspector none = Check.lift("L049950913g000");
            none.step(3);
            Check.same("the report of none in the garage", Check.report(none), "a@0");
            GripInspector eleventh = Check.lift("L209950913g000g001g002g003g004g005g006g007g008g009h0h0");
            eleventh.step(10);
            Check.same("slot(10)", eleventh.slot(10), 10);
            Check.same("about(3): one is put on a step", eleventh.about(3), 1);
            eleventh.step(1);
            Check.same("slot(11)", eleventh.slot(11), 11);
        });
    }

    private static void clock() {
        Sentence.of("A STEP", "The clock increases by 1.", () -> {
            GripInspector x = Check.lift("L041020423");
            x.step(1);
            Check.same("about(7)", x.about(7), 1);
            x.step(99);
            Check.same("about(7) behind 99 more", x.about(7), 100);
            x.setLimit(0, 1);
            x.addGrip(0);
            Check.same("about(7) behind other actions", x.about(7), 100);
        });
        Sentence.of("What it is", "An object is used for at most 512 calls after it has been made", () -> {
            GripInspector x = new GripInspector();
            for (int call = 1; call <= 511; call++) x.step(99);
            Check.same("about(7) as the call 512", x.about(7), 511 * 99);
        });
    }

    private static void numberOfSteps() {
        Sentence.of(11, "m: number of steps, 1 to 99", () -> {
            GripInspector x = Check.busy();
            x.step(1);
            Check.same("about(7) behind step(1)", x.about(7), 2);
            x.step(99);
            Check.same("about(7) behind step(99)", x.about(7), 101);
        });
        Sentence.of(11, "Throws IllegalArgumentException if m is out of range", () -> {
            Check.refusesBeside(1, 99, "step", Check::busy, Check.ARGUMENT, (x, m) -> x.step(m));
            Check.refuses("step(0) of a new object", GripInspector::new, Check.ARGUMENT, x -> x.step(0));
        });
        Sentence.of(11, "(Together they are one action.)", () -> {
            GripInspector x = Check.lift("L040150941g001g000h2");
            String before = Check.state(x);
            x.step(99);
            Check.same("undo()", x.undo(), 0);
            Check.same("the state", Check.state(x), before);
        });
        Sentence.of(11, "Returns the number of grips in the workshop then.", () -> {
            Check.same("step(99) without grips", new GripInspector().step(99), 0);
            GripInspector x = Check.lift("L200150949g001g002g003g004g005g006g007g008g009g010g011g012");
            Check.same("step(1)", x.step(1), 1);
            Check.same("step(8)", x.step(8), 9);
            Check.same("step(1) with one out of it and one into it", x.step(1), 9);
        });
    }
}
