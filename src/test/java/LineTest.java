/** Promises 19 to 23: the line. */
public final class LineTest {
    public static void main(String[] args) {
        gap();
        room();
        smallestGap();
        groups();
        dueAfter();
        dueAfterComesTrue();
        chance();
        Check.end();
    }

    private static void gap() {
        GripInspector x = Check.lift("L120120913g108g001g005h0");
        Check.same("gap(0)", x.gap(0), 5);
        Check.same("gap(1)", x.gap(1), 4);
        Check.same("gap(2)", x.gap(2), 3);
        Check.same("gap(3) in the garage", x.gap(3), Check.NONE);
        x.takeOff(2);
        Check.same("gap(1)", x.gap(1), 7);
        Check.same("gap(2) in the garage", x.gap(2), Check.NONE);
        x.scrap(0);
        Check.same("gap(1) of the only one", x.gap(1), 12);
        Check.same("gap(0) of a scrapped one", x.gap(0), Check.NONE);
        Check.fails("gap(4)", x, Check.INDEX, () -> x.gap(4));
        Check.fails("gap(-1)", x, Check.INDEX, () -> x.gap(-1));
        Check.fails("gap(12)", x, Check.INDEX, () -> x.gap(12));
        x.scrap(2);
        x.scrap(3);
        x.step(1);
        Check.same("gap(1) in the workshop", x.gap(1), Check.NONE);
        GripInspector y = Check.lift("L041020423g003");
        Check.same("gap(0) of 4 slots", y.gap(0), 4);
        y.addGrip(0);
        y.setLimit(3, 1);
        y.putOn(1, 0);
        Check.same("gap(0) over the end", y.gap(0), 1);
        Check.same("gap(1)", y.gap(1), 3);
    }

    private static void room() {
        int[] due = {19, 17, 15, 13};
        for (int spacing = 1; spacing <= 4; spacing++) {
            GripInspector x = Check.lift("L2010204" + spacing + "3g000");
            Check.same("room(0) with " + spacing, x.room(0), due[spacing - 1]);
            Check.same("room(2) with " + spacing, x.room(2), 20 / spacing);
            x.addGrip(0);
            Check.same("room(0) with a grip in the garage", x.room(0), due[spacing - 1]);
            x.takeOff(0);
            Check.same("room(0) of an empty line", x.room(0), 20);
        }
        GripInspector x = Check.lift("L1110204" + "33g000g103g208");
        Check.same("room(0)", x.room(0), 0);
        Check.same("room(1)", x.room(1), 3);
        Check.same("room(2)", x.room(2), 3);
        x.setLimit(3, 2);
        Check.same("room(0)", x.room(0), 2);
        Check.same("room(2)", x.room(2), 5);
        x.setLimit(3, 1);
        Check.same("room(0)", x.room(0), 8);
        for (int what : new int[] {-1, 3, Integer.MAX_VALUE, Integer.MIN_VALUE}) {
            Check.fails("room(" + what + ")", x, Check.ARGUMENT, () -> x.room(what));
        }
        GripInspector y = Check.lift("L051020443h0");
        Check.same("room(0)", y.room(0), 5);
        Check.same("room(2)", y.room(2), 1);
    }

    private static void smallestGap() {
        Check.same("room(1) of a new object", new GripInspector().room(1), Check.NONE);
        Check.same("room(1) without grips on the line", Check.lift("L051020443h0").room(1), Check.NONE);
        Check.same("room(1) of one grip", Check.lift("L051020443h0g002").room(1), 5);
        Check.same("room(1) over the end", Check.lift("L101020443g009g004g000").room(1), 1);
        Check.same("room(1)", Check.lift("L201020443g002g010g115g006").room(1), 4);
    }

    private static void groups() {
        GripInspector x = new GripInspector();
        Check.same("groups(0..2) without grips", groupsOf(x), "0 0 -9");
        for (int weight : new int[] {3, 1, 2, 1, 2, 3, 3, 0}) x.addGrip(weight);
        Check.same("groups(0..2)", groupsOf(x), "4 3 0");
        x.scrap(0);
        Check.same("groups(0..2) with three of two", groupsOf(x), "4 2 1");
        x.scrap(3);
        Check.same("groups(0..2)", groupsOf(x), "4 2 2");
        x.scrap(7);
        Check.same("groups(0..2)", groupsOf(x), "3 2 2");
        for (int g : new int[] {1, 2, 4, 5, 6}) x.scrap(g);
        Check.same("groups(0..2) of scrapped ones", groupsOf(x), "0 0 -9");
        for (int what : new int[] {-1, 3, Integer.MAX_VALUE, Integer.MIN_VALUE}) {
            Check.fails("groups(" + what + ")", x, Check.ARGUMENT, () -> x.groups(what));
        }
        GripInspector y = Check.lift("L080120419g101g103h1");
        y.step(1);
        Check.same("groups(0..2) with workshop, line and garage", groupsOf(y), "1 3 0");
    }

    private static String groupsOf(GripInspector x) {
        return x.groups(0) + " " + x.groups(1) + " " + x.groups(2);
    }

    private static void dueAfter() {
        GripInspector x = Check.lift("L080320913g000g001g007h0");
        Check.same("dueAfter(0) at the station", x.dueAfter(0), 8 + 16);
        Check.same("dueAfter(1)", x.dueAfter(1), 1 + 16);
        Check.same("dueAfter(2)", x.dueAfter(2), 7 + 16);
        Check.same("dueAfter(3) in the garage", x.dueAfter(3), Check.NONE);
        x.step(3);
        Check.same("dueAfter(0) from slot 3", x.dueAfter(0), 5 + 16);
        Check.same("dueAfter(1) from slot 3", x.dueAfter(1), 6 + 8);
        x.setLimit(0, 2);
        Check.same("dueAfter(1) with the limit 2", x.dueAfter(1), 6);
        x.setLimit(0, 1);
        Check.same("dueAfter(1) with the limit 1", x.dueAfter(1), 6);
        Check.same("dueAfter(0) with the limit 1", x.dueAfter(0), 5);
        x.setLimit(0, 99);
        Check.same("dueAfter(0) with the limit 99", x.dueAfter(0), 5 + 98 * 8);
        Check.fails("dueAfter(4)", x, Check.INDEX, () -> x.dueAfter(4));
        Check.fails("dueAfter(-1)", x, Check.INDEX, () -> x.dueAfter(-1));
        Check.fails("dueAfter(12)", x, Check.INDEX, () -> x.dueAfter(12));
        x.scrap(0);
        Check.same("dueAfter(0) of a scrapped one", x.dueAfter(0), Check.NONE);
        GripInspector y = Check.lift("L209950933g000");
        y.step(60);
        y.setLimit(0, 2);
        Check.same("dueAfter(0) above the limit", y.dueAfter(0), 20);
        y.setLimit(0, 1);
        y.step(20);
        Check.same("dueAfter(0) in the workshop", y.dueAfter(0), Check.NONE);
    }

    private static void dueAfterComesTrue() {
        GripInspector x = Check.lift("L070450913g003");
        for (int i = x.dueAfter(0); i > 1; i--) {
            x.step(1);
            Check.same("dueAfter(0)", x.dueAfter(0), i - 1);
            Check.same("where it is", x.grip(0, 5), 0);
        }
        Check.same("the last step", x.step(1), 1);
    }

    private static void chance() {
        GripInspector x = new GripInspector();
        Check.same("chance(1, true)", x.chance(1, true), 3);
        Check.same("chance(1, false)", x.chance(1, false), 4);
        Check.same("chance(9, true)", x.chance(9, true), 19683);
        Check.same("chance(9, false)", x.chance(9, false), 262144);
        for (int rate = 1; rate <= 9; rate++) {
            x.setLimit(2, rate);
            int upper = 1;
            int lower = 1;
            for (int passes = 1; passes <= 9; passes++) {
                upper *= rate - 1;
                lower *= rate;
                Check.same("chance(" + passes + ", true) with " + rate, x.chance(passes, true), upper);
                Check.same("chance(" + passes + ", false) with " + rate, x.chance(passes, false), lower);
            }
        }
        for (int passes : new int[] {0, -1, 10, Integer.MAX_VALUE, Integer.MIN_VALUE}) {
            Check.fails("chance(" + passes + ", true)", x, Check.ARGUMENT, () -> x.chance(passes, true));
            Check.fails("chance(" + passes + ", false)", x, Check.ARGUMENT, () -> x.chance(passes, false));
        }
    }
}
