/** The boundary sentences of promises 24 to 27 and 29: forecasts and simulations. */
final class ForecastEdges {
    private static final String FULL = "L121050913g011g010g009g008g007g006g005g004g003g002g001g000";

    private ForecastEdges() {
    }

    static void run() {
        ahead();
        aheadRefused();
        happens();
        happensRefused();
        bestLimit();
        bestLimitRefused();
        emptyAfter();
        simulate();
        simulateRefused();
    }

    /** The number of steps is told for each number of each grip as it would be seen behind so many steps. */
    private static void agrees(int m) {
        GripInspector then = Check.busy();
        if (m > 0) then.step(m);
        for (int g = 0; g < 6; g++) {
            GripInspector now = Check.busy();
            for (int what = 0; what <= 7; what++) {
                Check.same("ahead(" + g + ", " + m + ", " + what + ")", now.ahead(g, m, what), then.grip(g, what));
            }
        }
    }

    private static void ahead() {
        Sentence.of(24, "m: number of steps, 0 to 99", () -> {
            for (int m : new int[] {0, 1, 8, 9, 10, 98, 99}) agrees(m);
        });
        Sentence.of(24, "g: grip", () -> {
            Check.same("ahead(0, 11, 1)", Check.lift(FULL).ahead(0, 11, 1), 1);
            Check.same("ahead(11, 11, 1)", Check.lift(FULL).ahead(11, 11, 1), 0);
            Check.same("ahead(11, 12, 1)", Check.lift(FULL).ahead(11, 12, 1), 1);
        });
        Sentence.of(24, "what: 0 to 7, as for grip()", () -> {
            GripInspector x = Check.busy();
            Check.same("ahead(1, 0, 0)", x.ahead(1, 0, 0), 2);
            Check.same("ahead(4, 8, 7)", x.ahead(4, 8, 7), 1);
            Check.same("ahead(4, 9, 7)", x.ahead(4, 9, 7), Check.NONE);
            Check.same("ahead(5, 99, 5)", x.ahead(5, 99, 5), 3);
            Check.same("ahead(2, 0, 4)", x.ahead(2, 0, 4), Check.NONE);
        });
    }

    private static void aheadRefused() {
        Sentence.of(24, "Throws IndexOutOfBoundsException if there is no such grip", () -> {
            Check.refusesBeside(0, 5, "ahead(.., 1, 0)", Check::busy, Check.INDEX, (x, g) -> x.ahead(g, 1, 0));
            Check.refusesBeside(0, 11, "ahead of twelve", () -> Check.lift(FULL), Check.INDEX, (x, g) -> x.ahead(g, 1, 0));
            Check.refuses("ahead(0, 0, 0) without grips", GripInspector::new, Check.INDEX, x -> x.ahead(0, 0, 0));
        });
        Sentence.of(24, "Throws IllegalArgumentException if m or what is out of range", () -> {
            Check.refusesBeside(0, 99, "ahead(0, .., 0)", Check::busy, Check.ARGUMENT, (x, m) -> x.ahead(0, m, 0));
            Check.refusesBeside(0, 7, "ahead(0, 0, ..)", Check::busy, Check.ARGUMENT, (x, what) -> x.ahead(0, 0, what));
        });
    }

    private static String happenings(GripInspector x, int m) {
        return x.happens(m, 0) + " " + x.happens(m, 1) + " " + x.happens(m, 2) + " " + x.happens(m, 3);
    }

    private static void happens() {
        Sentence.of(25, "m: number of steps, 1 to 99", () -> {
            GripInspector x = Check.lift("L040150941g001");
            Check.same("happens(1, ..)", happenings(x, 1), "1 1 0 0");
            Check.same("happens(2, ..)", happenings(x, 2), "1 1 0 1");
            Check.same("happens(5, ..)", happenings(x, 5), "1 1 0 1");
            Check.same("happens(6, ..)", happenings(x, 6), "2 2 0 1");
            GripInspector last = Check.lift("L040150941g000");
            Check.same("happens(98, ..)", happenings(last, 98), "19 19 0 19");
            Check.same("happens(99, ..) with a pull in the last step", happenings(last, 99), "20 20 0 19");
            Check.same("happens(98, 2)", slippingInStep99().happens(98, 2), 0);
            Check.same("happens(99, 2) with a slip in the last step", slippingInStep99().happens(99, 2), 1);
            Check.same("happens(99, ..) without grips", happenings(new GripInspector(), 99), "0 0 0 0");
        });
        Sentence.of(25, "what: 0: how often a grip is pulled; 1: how often one is withdrawn because it is due; 2: how often "
            + "one is withdrawn because it slips and is not due; 3: how often one is put on the line", () -> {
            GripInspector x = Check.lift("L049903943g001h0");
            x.setRandom(Check.stateBefore(1));
            Check.same("happens(1, ..) of one that passes", happenings(x, 1), "0 0 0 0");
            x.setRandom(Check.stateBefore(9 * 3));
            Check.same("happens(1, ..) of one that is picked", happenings(x, 1), "1 0 0 0");
            x.setRandom(Check.stateBefore(9 * 16));
            Check.same("happens(1, ..) of one that slips", happenings(x, 1), "1 0 1 1");
            x.setLimit(0, 1);
            Check.same("happens(1, ..) of one that slips and is due", happenings(x, 1), "1 1 0 1");
            x.setRandom(Check.stateBefore(1));
            Check.same("happens(1, ..) of one that is due", happenings(x, 1), "1 1 0 1");
        });
    }

    private static void happensRefused() {
        Sentence.of(25, "Throws IllegalArgumentException if m or what is out of range", () -> {
            Check.refusesBeside(1, 99, "happens(.., 0)", Check::busy, Check.ARGUMENT, (x, m) -> x.happens(m, 0));
            Check.refusesBeside(0, 3, "happens(1, ..)", Check::busy, Check.ARGUMENT, (x, what) -> x.happens(1, what));
            Check.refuses("happens(0, 4)", Check::busy, Check.ARGUMENT, x -> x.happens(0, 4));
        });
    }

    /** A grip with some cycles that slips at the next step if it is not due then. */
    private static GripInspector slipping(int cycles) {
        GripInspector x = Check.lift("L049950943g001");
        for (int i = 0; i < cycles; i++) x.step(4);
        x.setLimit(1, 1);
        x.setRandom(Check.stateBefore(9 * 16));
        return x;
    }

    /** The wear of the weight 3 makes the slip the number of the pass and 0 to 4 more: only the fifth can be above 8. */
    private static GripInspector slippingInStep99() {
        long state = Check.stateBefore(64);
        for (int i = 1; i < 99; i++) state = Check.stateThatMakes(state);
        GripInspector x = Check.lift("L209908143g319");
        x.setRandom(state);
        return x;
    }

    private static void bestLimit() {
        Sentence.of(26, "m: number of steps, 1 to 99", () -> {
            Check.same("bestLimit(1) without grips", new GripInspector().bestLimit(1), 99);
            Check.same("bestLimit(99) without grips", new GripInspector().bestLimit(99), 99);
            GripInspector x = Check.lift("L040101143g302");
            Check.same("bestLimit(1) before it passes", x.bestLimit(1), 99);
            Check.same("bestLimit(98) before it slips", slippingInStep99().bestLimit(98), 99);
            Check.same("bestLimit(99) with a slip in the last step", slippingInStep99().bestLimit(99), 5);
        });
        Sentence.of(26, "Returns the limit of cycles, 1 to 99, with which, from now on and without other changes, no grip is "
            + "withdrawn in the next m steps because it slips and is not due; the greatest one of these; NONE if there is none.",
            () -> {
                Check.same("bestLimit(1) with the least one alone", slipping(0).bestLimit(1), 1);
                Check.same("bestLimit(1) with the first two", slipping(1).bestLimit(1), 2);
                Check.same("bestLimit(1) with all but the greatest", slipping(97).bestLimit(1), 98);
                Check.same("bestLimit(1) with all", slipping(98).bestLimit(1), 99);
                for (int limit : new int[] {1, 50, 99}) {
                    GripInspector x = slipping(1);
                    x.setLimit(0, limit);
                    Check.same("bestLimit(1) with the limit " + limit + " now", x.bestLimit(1), 2);
                }
            });
        Sentence.of(26, "Finds the limit of cycles that is best for the line.", () -> {
            GripInspector x = Check.lift("L049901143g301");
            for (int m : new int[] {1, 4, 5, 9, 50, 99}) {
                int due = Check.NONE;
                for (int limit = 1; limit <= 99; limit++) {
                    GripInspector y = Check.lift("L049901143g301");
                    y.setLimit(0, limit);
                    if (y.happens(m, 2) == 0) due = limit;
                }
                Check.same("bestLimit(" + m + ")", x.bestLimit(m), due);
            }
        });
    }

    private static void bestLimitRefused() {
        Sentence.of(26, "Throws IllegalArgumentException if m is out of range", () ->
            Check.refusesBeside(1, 99, "bestLimit", Check::busy, Check.ARGUMENT, (x, m) -> x.bestLimit(m)));
    }

    private static void emptyAfter() {
        Sentence.of(27, "Returns the smallest number of steps, 0 to 150, after which (without other changes) no grip is on the "
            + "line; NONE if there is none.", () -> {
            Check.same("emptyAfter() without grips", new GripInspector().emptyAfter(), 0);
            Check.same("emptyAfter() with a garage alone", Check.lift("L041020423h0").emptyAfter(), 0);
            Check.same("emptyAfter() of one", Check.lift("L040150923g001").emptyAfter(), 1);
            GripInspector x = Check.lift("L151050933g000");
            Check.same("emptyAfter() of 150 steps", x.emptyAfter(), 150);
            x.scrap(0);
            Check.same("emptyAfter() of a scrapped one", x.emptyAfter(), 0);
            GripInspector y = Check.lift("L151150933g001");
            Check.same("emptyAfter() of 151 steps", y.emptyAfter(), Check.NONE);
            y.step(1);
            Check.same("emptyAfter() one step later", y.emptyAfter(), 150);
            Check.same("emptyAfter() with another put on at once", Check.lift("L040150949g001h0").emptyAfter(), 5);
            Check.same("emptyAfter() with one that is due much later", Check.lift("L209950943g000").emptyAfter(), Check.NONE);
        });
    }

    private static void simulate() {
        Sentence.of(29, "seed: the random state", () -> {
            for (long seed : new long[] {Long.MIN_VALUE, Long.MAX_VALUE, -1, 0, 1}) {
                GripInspector y = Check.busy();
                y.setRandom(seed);
                y.step(99);
                int pulls = 0;
                for (int g = 0; g < 6; g++) pulls += y.grip(g, 3);
                Check.same("simulate(" + seed + ", 99)", Check.busy().simulate(seed, 99), 100 * pulls + y.about(2));
            }
        });
        Sentence.of(29, "m: number of steps, 1 to 99", () -> {
            GripInspector x = Check.lift("L049950143g001");
            Check.same("simulate(0, 1)", x.simulate(0, 1), 101);
            Check.same("simulate(0, 4)", x.simulate(0, 4), 101);
            Check.same("simulate(0, 5)", x.simulate(0, 5), 201);
            GripInspector last = Check.lift("L049950143g003");
            Check.same("simulate(0, 98)", last.simulate(0, 98), 2401);
            Check.same("simulate(0, 99) with a pull in the last step", last.simulate(0, 99), 2501);
        });
        Sentence.of(29, "Returns 100 * (the sum of the pulls of all grips) + (the number of grips on the line) at the end.", () -> {
            Check.same("simulate(0, 1) without grips", new GripInspector().simulate(0, 1), 0);
            Check.same("simulate(0, 99) without grips", new GripInspector().simulate(0, 99), 0);
            Check.same("simulate(.., 1) of a full line", Check.lift(FULL).simulate(Check.stateBefore(1), 1), 12);
            GripInspector x = Check.lift("L040150949g001h0h0");
            x.step(1);
            x.scrap(0);
            Check.same("simulate(.., 1) with the pull of a scrapped one", x.simulate(Check.stateBefore(1), 1), 101);
            GripInspector y = Check.lift("L040150949g001");
            y.step(1);
            Check.same("simulate(.., 1) with the pull of one in the workshop", y.simulate(0, 1), 100);
        });
    }

    private static void simulateRefused() {
        Sentence.of(29, "Throws IllegalArgumentException if m is out of range", () ->
            Check.refusesBeside(1, 99, "simulate(5, ..)", Check::busy, Check.ARGUMENT, (x, m) -> x.simulate(5, m)));
    }
}
