/** Promises 6 to 10: what there is. */
public final class ViewTest {
    public static void main(String[] args) {
        about();
        grip();
        slot();
        random();
        report();
        longestReport();
        Check.end();
    }

    /** Grip 0 is in the workshop, 1 on the line, 2 and 3 in the garage, 4 scrapped; grip 1 has been pulled. */
    private static GripInspector mixed() {
        GripInspector x = Check.lift("L069903345g301g003h0h1h2");
        Check.stepWith(x, 64);
        Check.stepWith(x, 1);
        Check.stepWith(x, 4 * 3);
        x.setLimit(1, 50);
        x.step(3);
        x.scrap(4);
        return x;
    }

    private static void about() {
        GripInspector x = Check.lift("L069903345g301g003h0h1h2");
        Check.same("about(..)", Check.about(x), "6 5 2 3 0 0 0 0 99 3 3 4 5");
        Check.stepWith(x, 16 * 3);
        Check.same("about(..) behind a slip", Check.about(x), "6 5 1 3 1 0 1 1 99 3 3 4 5");
        x.scrap(2);
        x.setLimit(2, 9);
        Check.same("about(..) behind scrap", Check.about(x), "6 5 1 2 1 1 1 1 99 3 9 4 5");
        x.step(4);
        x.takeOff(1);
        x.step(1);
        Check.same("about(6) and (7)", x.about(6) * 100 + x.about(7), 6);
        for (int what : new int[] {-1, 13, -9, Integer.MAX_VALUE, Integer.MIN_VALUE}) {
            Check.fails("about(" + what + ")", x, Check.ARGUMENT, () -> x.about(what));
        }
    }

    private static void grip() {
        GripInspector x = mixed();
        Check.same("grip(0, ..)", Check.grip(x, 0), "3 1 4 0 -9 0 1 -9");
        Check.same("grip(1, ..)", Check.grip(x, 1), "0 1 1 1 0 0 3 -9");
        Check.same("grip(2, ..)", Check.grip(x, 2), "0 0 0 0 -9 1 -9 -9");
        Check.same("grip(4, ..)", Check.grip(x, 4), "2 0 0 0 -9 3 -9 -9");
        x.setLimit(0, 1);
        x.setLimit(4, 7);
        Check.stepWith(x, 16 * 4);
        Check.same("grip(0, ..) in the workshop", Check.grip(x, 0), "3 2 8 1 6 2 -9 7");
        Check.fails("grip(5, 0)", x, Check.INDEX, () -> x.grip(5, 0));
        Check.fails("grip(-1, 0)", x, Check.INDEX, () -> x.grip(-1, 0));
        Check.fails("grip(12, 0)", x, Check.INDEX, () -> x.grip(12, 0));
        Check.fails("grip(5, 8)", x, Check.INDEX, () -> x.grip(5, 8));
        Check.fails("grip(0, 8)", x, Check.ARGUMENT, () -> x.grip(0, 8));
        Check.fails("grip(4, -1)", x, Check.ARGUMENT, () -> x.grip(4, -1));
        Check.fails("grip(greatest, 0)", x, Check.INDEX, () -> x.grip(Integer.MAX_VALUE, 0));
        Check.fails("grip(0, smallest)", x, Check.ARGUMENT, () -> x.grip(0, Integer.MIN_VALUE));
        GripInspector y = Check.lift("L069903345h0h0h0h0h0h0h0h0h0h0h0h3");
        Check.same("grip(11, 0)", y.grip(11, 0), 3);
        Check.fails("grip(12, 0) of twelve", y, Check.INDEX, () -> y.grip(12, 0));
    }

    private static void slot() {
        GripInspector x = Check.lift("L201020423h1g019g000");
        Check.same("slot(19)", x.slot(19), 1);
        Check.same("slot(0)", x.slot(0), 2);
        Check.same("slot(1)", x.slot(1), Check.NONE);
        x.takeOff(2);
        Check.same("slot(0) behind takeOff", x.slot(0), Check.NONE);
        x.scrap(1);
        Check.same("slot(19) behind scrap", x.slot(19), Check.NONE);
        Check.fails("slot(20)", x, Check.INDEX, () -> x.slot(20));
        Check.fails("slot(-1)", x, Check.INDEX, () -> x.slot(-1));
        Check.fails("slot(smallest)", x, Check.INDEX, () -> x.slot(Integer.MIN_VALUE));
        Check.fails("slot(greatest)", x, Check.INDEX, () -> x.slot(Integer.MAX_VALUE));
        GripInspector y = Check.lift("L041020423g003");
        Check.same("slot(3) of 4", y.slot(3), 0);
        Check.fails("slot(4) of 4", y, Check.INDEX, () -> y.slot(4));
    }

    private static void random() {
        GripInspector x = new GripInspector();
        x.step(1);
        Check.same("random()", x.random(), 1442695040888963407L);
        x.step(1);
        Check.same("random() then", x.random(), 1442695040888963407L * 6364136223846793005L + 1442695040888963407L);
        x.setRandom(Long.MIN_VALUE);
        Check.same("random() behind setRandom", x.random(), Long.MIN_VALUE);
    }

    private static void report() {
        GripInspector x = mixed();
        Check.same("report", Check.report(x), "a@1 b@3 cg dg ex");
        x.setLimit(0, 1);
        x.setLimit(4, 9);
        x.step(1);
        Check.same("report with a workshop", Check.report(x), "aw9 b@3 cg dg ex");
        Check.same("report(0)", x.report(0), 'a');
        Check.same("report(3)", x.report(3), ' ');
        Check.same("report(15)", x.report(15), 'x');
        Check.same("report(16)", x.report(16), Check.NONE);
        Check.same("report(greatest)", x.report(Integer.MAX_VALUE), Check.NONE);
        Check.fails("report(-1)", x, Check.ARGUMENT, () -> x.report(-1));
        Check.fails("report(smallest)", x, Check.ARGUMENT, () -> x.report(Integer.MIN_VALUE));
        Check.fails("report(-1) without grips", new GripInspector(), Check.ARGUMENT, () -> new GripInspector().report(-1));
    }

    private static void longestReport() {
        GripInspector x = Check.lift("L201020423g010g011g012g013g014g015g016g017g018g019g000g009");
        Check.same("report", Check.report(x), "a@10 b@11 c@12 d@13 e@14 f@15 g@16 h@17 i@18 j@19 k@0 l@9");
        Check.same("report(56)", x.report(56), '9');
        Check.same("report(57)", x.report(57), Check.NONE);
    }
}
