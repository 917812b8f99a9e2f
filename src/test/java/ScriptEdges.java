/** The boundary sentences of promise 28: scripts. They run on Check.busy(). */
final class ScriptEdges {
    /** A question that succeeds on Check.busy(): 2 grips are on the line. */
    private static final long TRUE = 70002;

    private ScriptEdges() {
    }

    static void run() {
        order();
        aCopy();
        steps();
        putting();
        taking();
        limits();
        cycles();
        places();
        numberOnTheLine();
        gripsAtSlots();
        gripsAndSlotsThatDoNotExist();
        otherGroups();
        firstThatFails();
        arguments();
        refused();
    }

    /** The command alone, and as the last one of three. */
    private static void answers(long command, int alone, int last) {
        Check.same("runScript(1, " + command + ")", Check.busy().runScript(1, command), alone);
        long script = (TRUE * 100000 + TRUE) * 100000 + command;
        Check.same("runScript(3, " + script + ")", Check.busy().runScript(3, script), last);
    }

    private static void works(long... commands) {
        for (long command : commands) answers(command, Check.NONE, Check.NONE);
    }

    private static void fails(long... commands) {
        for (long command : commands) answers(command, 0, 2);
    }

    private static void script(long script, int due) {
        Check.same("runScript(3, " + script + ")", Check.busy().runScript(3, script), due);
    }

    private static void order() {
        Sentence.of(28, "A script has 1 to 3 commands; each is a group of five decimal digits d1 to d5, and the first command is "
            + "the highest group of the number (with zeros before it, if it has fewer digits).", () -> {
            Check.same("runScript(1, 70002)", Check.busy().runScript(1, 70002), Check.NONE);
            Check.same("runScript(2, 70002)", Check.busy().runScript(2, 70002), 0);
            Check.same("runScript(3, 70002)", Check.busy().runScript(3, 70002), 0);
            Check.same("runScript(2, 70002 00000)", Check.busy().runScript(2, 70002_00000L), 1);
            Check.same("runScript(2, 70002 70002)", Check.busy().runScript(2, 70002_70002L), Check.NONE);
            script(70002_70002L, 0);
            script(70002_70002_70002L, Check.NONE);
            script(30000_70001_80301L, Check.NONE);
            script(70001_30000_80301L, 0);
        });
    }

    private static void aCopy() {
        Sentence.of(28, "Runs a script on a copy of the state.", () -> {
            GripInspector x = Check.busy();
            Check.same("runScript(3, ..)", x.runScript(3, 30000_30100_70000L), Check.NONE);
            Check.same("runScript(3, ..) again", x.runScript(3, 30000_30100_70000L), Check.NONE);
            Check.same("runScript(1, 70002) then", x.runScript(1, 70002), Check.NONE);
            script(10001_50100_10001L, Check.NONE);
            script(10002_50101_10001L, Check.NONE);
            script(10001_10001_50101L, Check.NONE);
            Check.changesNothing("runScript(3, ..)", Check::busy, y -> y.runScript(3, 30000_44009_10099L));
            Check.changesNothing("runScript(3, ..) that fails", Check::busy, y -> y.runScript(3, 30000_20206_99999L));
        });
    }

    private static void steps() {
        Sentence.of(28, "1 0 0 x y: makes xy steps (01 to 99).", () -> {
            works(10001, 10002, 10098, 10099);
            fails(10000);
            script(10008_60402_10001L, Check.NONE);
            script(10009_60402_70002L, 1);
        });
    }

    private static void putting() {
        Sentence.of(28, "2 g g i i: puts grip gg on the line at slot ii.", () -> {
            works(20206, 20209, 20306, 20309);
            fails(20205, 20210, 20200, 20203, 20006, 20000, 20406, 20506);
            script(20206_80602_70003L, Check.NONE);
            script(20206_20309_70004L, Check.NONE);
            script(20206_20209_70004L, 1);
            script(20206_20308_70004L, 1);
            GripInspector x = Check.lift("L201020413g000h0h0h0h0h0h0h0h0h0h0h0");
            Check.same("runScript(2, 21119 81911)", x.runScript(2, 21119_81911L), Check.NONE);
            Check.same("runScript(1, 20100) to a taken slot", x.runScript(1, 20100), 0);
        });
    }

    private static void taking() {
        Sentence.of(28, "3 g g 0 0: takes grip gg off the line.", () -> {
            works(30000, 30100);
            fails(30200, 30300, 30400, 30500);
            script(30100_70001_60101L, Check.NONE);
            script(30100_30100_70001L, 1);
            GripInspector x = Check.lift("L201020413h0h0h0h0h0h0h0h0h0h0h0g019");
            Check.same("runScript(2, 31100 70000)", x.runScript(2, 31100_70000L), Check.NONE);
        });
    }

    private static void limits() {
        Sentence.of(28, "4 w 0 x y: changes limit w to xy.", () -> {
            works(40001, 40099, 41001, 41050, 42001, 42009, 43001, 43004, 44001, 44009);
            fails(40000, 41000, 41051, 41099, 42000, 42010, 43000, 43005, 44000, 44010, 45001, 49001);
            script(43001_20201_70003L, Check.NONE);
            script(43004_20207_70003L, Check.NONE);
            script(43004_20206_70003L, 1);
        });
        Sentence.of(28, "The commands 1 to 4 fail if the method with this effect would throw an exception", () ->
            fails(10000, 20203, 30200, 40000));
    }

    private static void cycles() {
        Sentence.of(28, "5 g g x y: succeeds if grip gg has xy cycles.", () -> {
            works(50000, 50401, 50500);
            fails(50001, 50400, 50402, 50411, 50099);
            GripInspector x = Check.lift("L049950943g001");
            for (int i = 0; i < 98; i++) x.step(4);
            Check.same("runScript(1, 50098)", x.runScript(1, 50098), Check.NONE);
            x.step(1);
            Check.same("runScript(1, 50099)", x.runScript(1, 50099), Check.NONE);
            Check.same("runScript(1, 50098) then", x.runScript(1, 50098), 0);
        });
    }

    private static void places() {
        Sentence.of(28, "6 g g 0 p: succeeds if grip gg is at p (0 to 3, as for grip()).", () -> {
            works(60000, 60100, 60201, 60301, 60402, 60503);
            for (int g = 0; g <= 5; g++) {
                for (int p = 0; p <= 9; p++) {
                    if (p != "001123".charAt(g) - '0') fails(60000 + 100 * g + p);
                }
            }
        });
    }

    private static void numberOnTheLine() {
        Sentence.of(28, "7 0 0 x y: succeeds if xy grips are on the line.", () -> {
            works(70002);
            fails(70000, 70001, 70003, 70012, 70020, 70099);
            Check.same("runScript(1, 70000)", new GripInspector().runScript(1, 70000), Check.NONE);
            GripInspector x = Check.lift("L201020413g000g001g002g003g004g005g006g007g008g009g010g011");
            Check.same("runScript(1, 70012)", x.runScript(1, 70012), Check.NONE);
            Check.same("runScript(1, 70002)", x.runScript(1, 70002), 0);
        });
    }

    private static void gripsAtSlots() {
        Sentence.of(28, "8 i i g g: succeeds if grip gg is at slot ii.", () -> {
            works(80000, 80301);
            fails(80001, 80300, 80100, 80302, 80104, 80202, 81100);
            script(30000_80000_70002L, 1);
            GripInspector x = Check.lift("L201020413h0h0h0h0h0h0h0h0h0h0h0g019");
            Check.same("runScript(1, 81911)", x.runScript(1, 81911), Check.NONE);
            Check.same("runScript(1, 81910)", x.runScript(1, 81910), 0);
            Check.same("runScript(1, 81811)", x.runScript(1, 81811), 0);
        });
    }

    private static void gripsAndSlotsThatDoNotExist() {
        Sentence.of(28, "commands with grips or slots that do not exist fail", () -> {
            fails(20606, 21206, 29906, 20212, 20220, 20299);
            fails(30600, 31200, 39900);
            fails(50600, 51200, 59900);
            for (int p = 0; p <= 3; p++) fails(60600 + p, 61200 + p, 69900 + p);
            fails(80006, 80012, 80099, 81200, 81201, 82000, 89900, 89999);
            GripInspector none = new GripInspector();
            for (long command : new long[] {20000, 30000, 50000, 60000, 60001, 60002, 60003, 80000}) {
                Check.same("runScript(1, " + command + ") without grips", none.runScript(1, command), 0);
            }
        });
    }

    private static void otherGroups() {
        Sentence.of(28, "and so does any other group (also one with another digit where a 0 is written).", () -> {
            fails(0, 1, 99, 2, 9999, 90000, 90001, 99999);
            fails(10101, 11001, 19901, 10102);
            fails(30001, 30010, 30099, 30101, 30110);
            fails(40101, 40901, 43101, 44909);
            fails(60010, 60110, 60211, 60412, 60513, 60090);
            fails(70102, 71002, 79902);
        });
    }

    private static void firstThatFails() {
        Sentence.of(28, "Returns the index, from 0, of the first command that fails; NONE if all succeed.", () -> {
            script(99999_99999_99999L, 0);
            script(70002_99999_99999L, 1);
            script(70002_70002_99999L, 2);
            script(99999_70002_70002L, 0);
            script(70002_70002_70002L, Check.NONE);
        });
    }

    private static void arguments() {
        Sentence.of(28, "n: number of commands, 1 to 3", () -> {
            Check.same("runScript(1, 70002)", Check.busy().runScript(1, TRUE), Check.NONE);
            Check.same("runScript(3, ..)", Check.busy().runScript(3, 70002_70002_70002L), Check.NONE);
        });
        Sentence.of(28, "script: the commands, a number of at most 5 * n digits (0 or more)", () -> {
            for (int n = 1; n <= 3; n++) Check.same("runScript(" + n + ", 0)", Check.busy().runScript(n, 0), 0);
            Check.same("runScript(1, 99999)", Check.busy().runScript(1, 99999), 0);
            Check.same("runScript(2, 9999999999)", Check.busy().runScript(2, 9999999999L), 0);
            Check.same("runScript(3, 999999999999999)", Check.busy().runScript(3, 999999999999999L), 0);
        });
    }

    private static void refused() {
        Sentence.of(28, "Throws IllegalArgumentException if n is out of range, or if script is negative or has more than 5 * n "
            + "digits", () -> {
            Check.refusesBeside(1, 3, "runScript(.., 0)", Check::busy, Check.ARGUMENT, (x, n) -> x.runScript(n, 0));
            Check.refusesBeside(1, 3, "runScript(.., 70002)", Check::busy, Check.ARGUMENT, (x, n) -> x.runScript(n, TRUE));
            long[] least = {100000L, 10000000000L, 1000000000000000L};
            for (int i = 1; i <= 3; i++) {
                int n = i;
                for (long script : new long[] {-1, -TRUE, Long.MIN_VALUE, Long.MAX_VALUE, least[n - 1]}) {
                    Check.refuses("runScript(" + n + ", " + script + ")", Check::busy, Check.ARGUMENT,
                        x -> x.runScript(n, script));
                }
            }
            Check.refuses("runScript(0, -1)", Check::busy, Check.ARGUMENT, x -> x.runScript(0, -1));
        });
    }
}
