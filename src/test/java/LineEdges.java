/** The boundary sentences of promises 19 to 23: the line. */
final class LineEdges {
    private static final String FULL = "L121050913g011g010g009g008g007g006g005g004g003g002g001g000";

    private LineEdges() {
    }

    static void run() {
        gap();
        roomForOneMore();
        smallestGap();
        greatestNumber();
        groups();
        greatestGroup();
        dueAfter();
        dueAfterOfNone();
        chance();
        changeNothing();
    }

    private static void gap() {
        Sentence.of(19, "the number of slots from its slot on to that of the next grip on the line, in ascending order around "
            + "the ring (n if it is the only one).", () -> {
            GripInspector x = Check.lift("L201020413g019g000g118h2");
            Check.same("gap(0) over the end", x.gap(0), 1);
            Check.same("gap(1) nearly around", x.gap(1), 18);
            Check.same("gap(2)", x.gap(2), 1);
            x.takeOff(0);
            Check.same("gap(2) over the end", x.gap(2), 2);
            x.scrap(2);
            Check.same("gap(1) of the only one", x.gap(1), 20);
            Check.same("gap(0) of 4 slots", Check.lift("L041020443g003").gap(0), 4);
            for (int g = 0; g < 12; g++) Check.same("gap(" + g + ") of a full line", Check.lift(FULL).gap(g), 1);
        });
        Sentence.of(19, "g: grip", () -> {
            Check.same("gap(0)", Check.busy().gap(0), 3);
            Check.same("gap(11)", Check.lift(FULL).gap(11), 1);
        });
        Sentence.of(19, "Returns the gap; NONE if it is not on the line.", () -> {
            Check.same("gap(2) in the garage", Check.busy().gap(2), Check.NONE);
            Check.same("gap(4) in the workshop", Check.busy().gap(4), Check.NONE);
            Check.same("gap(5) of a scrapped one", Check.busy().gap(5), Check.NONE);
            Check.same("gap(1) on the line", Check.busy().gap(1), 9);
        });
        Sentence.of(19, "Throws IndexOutOfBoundsException if there is no such grip", () -> {
            Check.refusesBeside(0, 5, "gap", Check::busy, Check.INDEX, (x, g) -> x.gap(g));
            Check.refusesBeside(0, 11, "gap of twelve", () -> Check.lift(FULL), Check.INDEX, (x, g) -> x.gap(g));
            Check.refuses("gap(0) without grips", GripInspector::new, Check.INDEX, x -> x.gap(0));
        });
    }

    private static void roomForOneMore() {
        Sentence.of(20, "what: 0: the number of slots at which a grip could be put now, whether there is one in the garage or "
            + "not", () -> {
            Check.same("room(0) of a full line", Check.lift(FULL).room(0), 0);
            Check.same("room(0) of an empty line", Check.lift("L201020443").room(0), 20);
            Check.same("room(0) of an empty line of 4", Check.lift("L041020443h0").room(0), 4);
            Check.same("room(0) of no slot that is far enough", Check.lift("L081020423g000g103g006").room(0), 0);
            Check.same("room(0) of one slot between two", Check.lift("L081020423g000g104g006").room(0), 1);
            GripInspector x = Check.lift("L041020413g000g001g002g003");
            Check.same("room(0) with all slots taken", x.room(0), 0);
            x.takeOff(3);
            Check.same("room(0) with one in the garage", x.room(0), 1);
            x.scrap(3);
            Check.same("room(0) with none in the garage", x.room(0), 1);
        });
        Sentence.of(20, "Throws IllegalArgumentException if what is not 0 to 2", () ->
            Check.refusesBeside(0, 2, "room", Check::busy, Check.ARGUMENT, (x, what) -> x.room(what)));
    }

    private static void smallestGap() {
        Sentence.of(20, "1: the smallest gap of a grip on the line (NONE if there is none)", () -> {
            Check.same("room(1) without grips", new GripInspector().room(1), Check.NONE);
            Check.same("room(1) with a garage alone", Check.lift("L041020413h0").room(1), Check.NONE);
            Check.same("room(1) of one grip", Check.lift("L201020413g007h0").room(1), 20);
            Check.same("room(1) over the end", Check.lift("L201020413g019g000").room(1), 1);
            Check.same("room(1) of a full line", Check.lift(FULL).room(1), 1);
            Check.same("room(1) of two in half the ring", Check.lift("L201020413g019g009").room(1), 10);
            GripInspector x = Check.lift("L201020413g019g000");
            x.scrap(0);
            x.scrap(1);
            Check.same("room(1) of scrapped ones", x.room(1), Check.NONE);
        });
    }

    private static void greatestNumber() {
        Sentence.of(20, "2: the greatest number of grips that a line of n slots can have with this spacing, however many grips "
            + "there are (n / spacing, rounded down)", () -> {
            int[] due = {4, 2, 1, 1, 5, 2, 1, 1, 19, 9, 6, 4, 20, 10, 6, 5};
            int at = 0;
            for (int n : new int[] {4, 5, 19, 20}) {
                for (int spacing = 1; spacing <= 4; spacing++) {
                    GripInspector x = Check.lift(String.format("L%02d10204%d3", n, spacing));
                    Check.same("room(2) of " + n + " with the spacing " + spacing, x.room(2), due[at]);
                    at++;
                }
            }
            GripInspector x = Check.lift("L041020443g000g001g002g003");
            Check.same("room(2) with more grips than that", x.room(2), 1);
        });
    }

    private static String groupsOf(GripInspector x) {
        return x.groups(0) + " " + x.groups(1) + " " + x.groups(2);
    }

    /** Grip 0 has made some passes, 1 and 2 are in the garage; all have the weight 0. */
    private static GripInspector withCycles(int cycles) {
        GripInspector x = Check.lift("L049950943g001h0h0");
        for (int i = 0; i < cycles; i++) x.step(4);
        return x;
    }

    private static void groups() {
        Sentence.of(21, "two grips that are not scrapped belong to the same group if they have the same weight and cycles with "
            + "the same tens (cycles / 10, rounded down).", () -> {
            Check.same("groups(0..2) with 0 cycles", groupsOf(withCycles(0)), "1 3 0");
            Check.same("groups(0..2) with 9 cycles", groupsOf(withCycles(9)), "1 3 0");
            Check.same("groups(0..2) with 10 cycles", groupsOf(withCycles(10)), "2 2 1");
            GripInspector x = withCycles(10);
            x.takeOff(0);
            x.putOn(1, 1);
            for (int i = 0; i < 9; i++) x.step(4);
            Check.same("groups(0..2) with 10, 9 and 0 cycles", groupsOf(x), "2 2 1");
            x.step(4);
            Check.same("groups(0..2) with 10, 10 and 0 cycles", groupsOf(x), "2 2 0");
            for (int i = 0; i < 9; i++) x.step(4);
            Check.same("groups(0..2) with 10, 19 and 0 cycles", groupsOf(x), "2 2 0");
            x.step(4);
            Check.same("groups(0..2) with 10, 20 and 0 cycles", groupsOf(x), "3 1 0");
            Check.same("groups(0..2) of four weights", groupsOf(Check.lift("L041020423h3h2h1h0")), "4 1 0");
            GripInspector y = Check.busy();
            Check.same("groups(0..2) with garage, line and workshop", groupsOf(y), "3 2 0");
        });
        Sentence.of(21, "what: 0: the number of groups", () -> {
            Check.same("groups(0) without grips", new GripInspector().groups(0), 0);
            Check.same("groups(0) of one grip", Check.lift("L041020423h3").groups(0), 1);
            GripInspector x = Check.lift("L041020423h3h2");
            x.scrap(0);
            Check.same("groups(0) with a scrapped one", x.groups(0), 1);
            x.scrap(1);
            Check.same("groups(0) of scrapped ones alone", x.groups(0), 0);
        });
        Sentence.of(21, "Throws IllegalArgumentException if what is not 0 to 2", () ->
            Check.refusesBeside(0, 2, "groups", Check::busy, Check.ARGUMENT, (x, what) -> x.groups(what)));
    }

    private static void greatestGroup() {
        Sentence.of(21, "1: the number of grips of the greatest one (0 if there is none)", () -> {
            Check.same("groups(1) without grips", new GripInspector().groups(1), 0);
            Check.same("groups(1) of a full line", Check.lift(FULL).groups(1), 12);
            GripInspector x = Check.lift("L041020423h3");
            x.scrap(0);
            Check.same("groups(1) of a scrapped one", x.groups(1), 0);
        });
        Sentence.of(21, "2: the smallest grip of the greatest one (among several the one whose smallest grip is smallest; NONE "
            + "if there is none)", () -> {
            Check.same("groups(2) without grips", new GripInspector().groups(2), Check.NONE);
            Check.same("groups(2) of a full line", Check.lift(FULL).groups(2), 0);
            Check.same("groups(2) of a later one", Check.lift("L041020423h3h2h1h1").groups(2), 2);
            GripInspector x = Check.lift("L041020423h3h2h1h2h3");
            Check.same("groups(2) of two of the same size", x.groups(2), 0);
            x.scrap(0);
            Check.same("groups(2) behind scrap(0)", x.groups(2), 1);
            x.scrap(1);
            Check.same("groups(2) behind scrap(1)", x.groups(2), 2);
            for (int g = 2; g <= 4; g++) x.scrap(g);
            Check.same("groups(2) of scrapped ones", x.groups(2), Check.NONE);
        });
    }

    private static void dueAfter() {
        Sentence.of(22, "(If it has as many cycles as the limit or more, this is at its next pass.)", () -> {
            GripInspector x = Check.lift("L049950943g001");
            for (int i = 0; i < 3; i++) x.step(4);
            int[] limits = {1, 2, 3, 4, 5, 99};
            int[] due = {1, 1, 1, 1, 5, 381};
            for (int i = 0; i < limits.length; i++) {
                x.setLimit(0, limits[i]);
                Check.same("dueAfter(0) with 3 cycles and the limit " + limits[i], x.dueAfter(0), due[i]);
            }
        });
        Sentence.of(22, "g: grip", () -> {
            Check.same("dueAfter(0)", Check.lift(FULL).dueAfter(0), 119);
            Check.same("dueAfter(11)", Check.lift(FULL).dueAfter(11), 120);
        });
        Sentence.of(22, "Returns the number of steps, 1 or more, after which it is due; NONE if it is not on the line.", () -> {
            GripInspector x = Check.lift("L200150943g000g001g019");
            Check.same("dueAfter(0) at the station", x.dueAfter(0), 20);
            Check.same("dueAfter(1) at the next slot", x.dueAfter(1), 1);
            Check.same("dueAfter(2) at the slot before", x.dueAfter(2), 19);
            Check.same("dueAfter(0) of the greatest", Check.lift("L209950943g000").dueAfter(0), 1980);
            GripInspector y = Check.lift("L040250943g001");
            for (int left = y.dueAfter(0); left > 1; left--) {
                Check.same("step(1)", y.step(1), 0);
                Check.same("dueAfter(0) then", y.dueAfter(0), left - 1);
            }
            Check.same("the last step", y.step(1), 1);
        });
    }

    private static void dueAfterOfNone() {
        Sentence.of(22, "NONE if it is not on the line.", () -> {
            Check.same("dueAfter(2) in the garage", Check.busy().dueAfter(2), Check.NONE);
            Check.same("dueAfter(4) in the workshop", Check.busy().dueAfter(4), Check.NONE);
            Check.same("dueAfter(5) of a scrapped one", Check.busy().dueAfter(5), Check.NONE);
        });
        Sentence.of(22, "Throws IndexOutOfBoundsException if there is no such grip", () -> {
            Check.refusesBeside(0, 5, "dueAfter", Check::busy, Check.INDEX, (x, g) -> x.dueAfter(g));
            Check.refusesBeside(0, 11, "dueAfter of twelve", () -> Check.lift(FULL), Check.INDEX, (x, g) -> x.dueAfter(g));
            Check.refuses("dueAfter(0) without grips", GripInspector::new, Check.INDEX, x -> x.dueAfter(0));
        });
    }

    private static void chance() {
        Sentence.of(23, "passes: 1 to 9", () -> {
            GripInspector x = new GripInspector();
            Check.same("chance(1, ..)", x.chance(1, true) + " / " + x.chance(1, false), "3 / 4");
            Check.same("chance(9, ..)", x.chance(9, true) + " / " + x.chance(9, false), "19683 / 262144");
        });
        Sentence.of(23, "upper: true for the numerator, false for the denominator, in lowest terms (0 is 0 / 1)", () -> {
            GripInspector x = new GripInspector();
            x.setLimit(2, 1);
            Check.same("chance(1, ..) with the rate 1", x.chance(1, true) + " / " + x.chance(1, false), "0 / 1");
            Check.same("chance(9, ..) with the rate 1", x.chance(9, true) + " / " + x.chance(9, false), "0 / 1");
            x.setLimit(2, 2);
            Check.same("chance(9, ..) with the rate 2", x.chance(9, true) + " / " + x.chance(9, false), "1 / 512");
            x.setLimit(2, 9);
            Check.same("chance(1, ..) with the rate 9", x.chance(1, true) + " / " + x.chance(1, false), "8 / 9");
            Check.same("chance(9, ..) with the rate 9", x.chance(9, true) + " / " + x.chance(9, false),
                "134217728 / 387420489");
        });
        Sentence.of(23, "Throws IllegalArgumentException if passes is out of range", () -> {
            Check.refusesBeside(1, 9, "chance(.., true)", Check::busy, Check.ARGUMENT, (x, m) -> x.chance(m, true));
            Check.refusesBeside(1, 9, "chance(.., false)", Check::busy, Check.ARGUMENT, (x, m) -> x.chance(m, false));
        });
    }

    private static void changeNothing() {
        Sentence.of(19, "these and all following methods up to the save slots change nothing", () -> {
            Check.changesNothing("gap(0)", Check::busy, x -> x.gap(0));
            for (int i = 0; i <= 2; i++) {
                int what = i;
                Check.changesNothing("room(" + i + ")", Check::busy, x -> x.room(what));
                Check.changesNothing("groups(" + i + ")", Check::busy, x -> x.groups(what));
            }
            Check.changesNothing("dueAfter(0)", Check::busy, x -> x.dueAfter(0));
            Check.changesNothing("chance(9, true)", Check::busy, x -> x.chance(9, true));
            for (int i = 0; i <= 7; i++) {
                int what = i;
                Check.changesNothing("ahead(4, 99, " + i + ")", Check::busy, x -> x.ahead(4, 99, what));
            }
            for (int i = 0; i <= 3; i++) {
                int what = i;
                Check.changesNothing("happens(99, " + i + ")", Check::busy, x -> x.happens(99, what));
            }
            Check.changesNothing("bestLimit(99)", Check::busy, x -> x.bestLimit(99));
            Check.changesNothing("emptyAfter()", Check::busy, GripInspector::emptyAfter);
            Check.changesNothing("runScript(..)", Check::busy, x -> x.runScript(3, 10099_40001_43001L));
            Check.changesNothing("runScript(..)", Check::busy, x -> x.runScript(3, 20206_30000_99999L));
            Check.changesNothing("simulate(5, 99)", Check::busy, x -> x.simulate(5, 99));
        });
    }
}
