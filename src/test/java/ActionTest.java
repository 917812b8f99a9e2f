/** Promises 12 to 18: the other actions and undo. */
public final class ActionTest {
    public static void main(String[] args) {
        addGrip();
        putOn();
        spacing();
        takeOff();
        scrap();
        setLimit();
        setRandom();
        undo();
        undoOfEach();
        whatIsNoAction();
        Check.end();
    }

    private static void addGrip() {
        GripInspector x = new GripInspector();
        for (int g = 0; g < 12; g++) Check.same("addGrip", x.addGrip(g % 4), g);
        for (int g = 0; g < 12; g++) Check.same("grip(..)", Check.grip(x, g), g % 4 + " 0 0 0 -9 1 -9 -9");
        Check.fails("addGrip(0) of a thirteenth", x, Check.STATE, () -> x.addGrip(0));
        Check.fails("addGrip(4) of a thirteenth", x, Check.ARGUMENT, () -> x.addGrip(4));
        x.scrap(5);
        Check.fails("addGrip(0) behind scrap", x, Check.STATE, () -> x.addGrip(0));
        GripInspector y = new GripInspector();
        for (int weight : new int[] {-1, 4, Integer.MAX_VALUE, Integer.MIN_VALUE}) {
            Check.fails("addGrip(" + weight + ")", y, Check.ARGUMENT, () -> y.addGrip(weight));
        }
        Check.fails("undo()", y, Check.STATE, y::undo);
        GripInspector used = Check.lift("L040150112g301");
        used.addGrip(2);
        used.putOn(1, 3);
        used.step(3);
        used.undo();
        used.undo();
        used.undo();
        Check.same("addGrip(1) in the place of one taken back", used.addGrip(1), 1);
        Check.same("grip(1, ..)", Check.grip(used, 1), "1 0 0 0 -9 1 -9 -9");
    }

    private static void putOn() {
        GripInspector x = Check.lift("L201020423g119h0h0h0");
        Check.same("putOn(1, 4)", x.putOn(1, 4), 2);
        Check.same("grip(1, ..)", Check.grip(x, 1), "0 0 0 0 -9 0 4 -9");
        Check.fails("putOn(4, 0)", x, Check.INDEX, () -> x.putOn(4, 0));
        Check.fails("putOn(-1, 0)", x, Check.INDEX, () -> x.putOn(-1, 0));
        Check.fails("putOn(12, 0)", x, Check.INDEX, () -> x.putOn(12, 0));
        Check.fails("putOn(2, 20)", x, Check.INDEX, () -> x.putOn(2, 20));
        Check.fails("putOn(2, -1)", x, Check.INDEX, () -> x.putOn(2, -1));
        Check.fails("putOn(0, 20) of one on the line", x, Check.INDEX, () -> x.putOn(0, 20));
        Check.fails("putOn(0, 10) of one on the line", x, Check.STATE, () -> x.putOn(0, 10));
        Check.fails("putOn(2, 4) on another", x, Check.STATE, () -> x.putOn(2, 4));
        x.scrap(3);
        Check.fails("putOn(3, 10) of a scrapped one", x, Check.STATE, () -> x.putOn(3, 10));
        Check.same("putOn(2, 10)", x.putOn(2, 10), 3);
        GripInspector y = Check.lift("L080120429g001");
        y.step(1);
        Check.fails("putOn(0, 5) from the workshop", y, Check.STATE, () -> y.putOn(0, 5));
    }

    private static void spacing() {
        for (int spacing = 1; spacing <= 4; spacing++) {
            for (int i = 0; i < 9; i++) {
                int slot = i;
                GripInspector x = Check.lift("L0910204" + spacing + "3g002h0");
                int distance = Math.min(Math.abs(i - 2), 9 - Math.abs(i - 2));
                String due = distance >= spacing ? "2" : "throws IllegalStateException";
                Check.same("putOn(1, " + i + ") with " + spacing, Check.outcome(() -> x.putOn(1, slot)), due);
            }
        }
        GripInspector x = Check.lift("L0410204" + "43h0h0");
        Check.same("putOn(0, 3) on an empty line", x.putOn(0, 3), 1);
        Check.fails("putOn(1, 1) on a short line", x, Check.STATE, () -> x.putOn(1, 1));
        x.setLimit(3, 2);
        Check.same("putOn(1, 1) with a smaller spacing", x.putOn(1, 1), 2);
    }

    private static void takeOff() {
        GripInspector x = Check.lift("L201020413g319g000h0");
        x.step(20);
        String numbers = Check.grip(x, 0);
        Check.same("takeOff(0)", x.takeOff(0), 19);
        Check.same("grip(0, ..)", Check.grip(x, 0), numbers.replace(" 0 19 -9", " 1 -9 -9"));
        Check.fails("takeOff(0) again", x, Check.STATE, () -> x.takeOff(0));
        Check.same("takeOff(1)", x.takeOff(1), 0);
        Check.fails("takeOff(3)", x, Check.INDEX, () -> x.takeOff(3));
        Check.fails("takeOff(-1)", x, Check.INDEX, () -> x.takeOff(-1));
        Check.fails("takeOff(12)", x, Check.INDEX, () -> x.takeOff(12));
        x.scrap(0);
        Check.fails("takeOff(0) of a scrapped one", x, Check.STATE, () -> x.takeOff(0));
        GripInspector y = Check.lift("L080120429g001");
        y.step(1);
        Check.fails("takeOff(0) from the workshop", y, Check.STATE, () -> y.takeOff(0));
    }

    private static void scrap() {
        GripInspector x = Check.lift("L080120429g001g104h2h3");
        x.step(1);
        Check.same("scrap(0) in the workshop", x.scrap(0), 2);
        Check.same("grip(0, ..)", Check.grip(x, 0).substring(0, 8), "0 1 1 1 ");
        Check.same("grip(0, 5..7)", x.grip(0, 5) + " " + x.grip(0, 6) + " " + x.grip(0, 7), "3 -9 -9");
        Check.same("scrap(1) on the line", x.scrap(1), 0);
        Check.same("slot(4)", x.slot(4), Check.NONE);
        Check.same("scrap(3) in the garage", x.scrap(3), 1);
        Check.fails("scrap(3) again", x, Check.STATE, () -> x.scrap(3));
        Check.fails("scrap(4)", x, Check.INDEX, () -> x.scrap(4));
        Check.fails("scrap(-1)", x, Check.INDEX, () -> x.scrap(-1));
        Check.fails("scrap(12)", x, Check.INDEX, () -> x.scrap(12));
        x.step(40);
        Check.same("scrapped for ever", Check.report(x).substring(0, 3) + x.about(5), "ax 3");
        Check.same("about(1)", x.about(1), 4);
    }

    private static void setLimit() {
        GripInspector x = new GripInspector();
        int[] first = {10, 20, 4, 2, 3};
        int[] greatest = {99, 50, 9, 4, 9};
        for (int i = 0; i < 5; i++) {
            int what = i;
            Check.same("setLimit(" + i + ", greatest)", x.setLimit(i, greatest[i]), first[i]);
            Check.same("about()", x.about(8 + i), greatest[i]);
            Check.same("setLimit(" + i + ", 1)", x.setLimit(i, 1), greatest[i]);
            Check.same("about()", x.about(8 + i), 1);
            for (int v : new int[] {0, -1, greatest[i] + 1, Integer.MAX_VALUE, Integer.MIN_VALUE}) {
                Check.fails("setLimit(" + what + ", " + v + ")", x, Check.ARGUMENT, () -> x.setLimit(what, v));
            }
        }
        for (int what : new int[] {-1, 5, Integer.MAX_VALUE, Integer.MIN_VALUE}) {
            Check.fails("setLimit(" + what + ", 1)", x, Check.ARGUMENT, () -> x.setLimit(what, 1));
        }
        Check.same("undo()", x.undo(), 9);
    }

    private static void setRandom() {
        GripInspector x = new GripInspector();
        Check.same("setRandom(5)", x.setRandom(5), 0);
        Check.same("setRandom(greatest)", x.setRandom(Long.MAX_VALUE), 5);
        Check.same("setRandom(smallest)", x.setRandom(Long.MIN_VALUE), Long.MAX_VALUE);
        Check.same("random()", x.random(), Long.MIN_VALUE);
        Check.same("undo()", x.undo(), 2);
        Check.same("random() behind undo", x.random(), Long.MAX_VALUE);
    }

    private static void undo() {
        GripInspector x = Check.lift("L080320413g001g304h2h3");
        String before = Check.state(x);
        x.step(30);
        Check.same("undo()", x.undo(), 0);
        Check.same("the state", Check.state(x), before);
        Check.fails("undo() of none", x, Check.STATE, x::undo);
        x.step(5);
        x.takeOff(0);
        String between = Check.state(x);
        x.step(7);
        x.addGrip(0);
        Check.same("undo()", x.undo(), 3);
        Check.same("undo()", x.undo(), 2);
        Check.same("the state", Check.state(x), between);
        x.setLimit(0, 50);
        Check.same("undo() of the new action", x.undo(), 2);
        Check.same("the state", Check.state(x), between);
        Check.same("undo()", x.undo(), 1);
        Check.same("undo()", x.undo(), 0);
        Check.same("the state", Check.state(x), before);
    }

    private static void undoOfEach() {
        GripInspector x = Check.lift("L080320413g001g304h2h3");
        String[] states = new String[9];
        states[0] = Check.state(x);
        x.step(17);
        states[1] = Check.state(x);
        x.addGrip(2);
        states[2] = Check.state(x);
        x.takeOff(1);
        states[3] = Check.state(x);
        x.putOn(1, 4);
        states[4] = Check.state(x);
        x.scrap(0);
        states[5] = Check.state(x);
        x.setLimit(4, 9);
        states[6] = Check.state(x);
        x.setRandom(-1);
        states[7] = Check.state(x);
        x.setRandom(-1);
        for (int i = 7; i >= 0; i--) {
            Check.same("undo()", x.undo(), i);
            Check.same("the state behind undo() " + i, Check.state(x), states[i]);
        }
    }

    private static void whatIsNoAction() {
        GripInspector x = Check.lift("L080320413g001g304h2h3");
        x.setRandom(9);
        x.setRandom(9);
        x.setLimit(0, 3);
        String before = Check.state(x);
        x.append('h');
        x.errorPosition();
        x.report(0);
        x.gap(0);
        x.room(0);
        x.groups(0);
        x.dueAfter(0);
        x.chance(2, true);
        x.ahead(0, 99, 1);
        x.happens(99, 0);
        x.bestLimit(99);
        x.emptyAfter();
        x.runScript(2, 10099L * 100000 + 40001);
        x.simulate(3, 99);
        x.save(0);
        x.clearText();
        Check.same("the state", Check.state(x), before);
        Check.same("undo() of an action without effect", x.undo(), 2);
        Check.same("undo()", x.undo(), 1);
        Check.same("random()", x.random(), 9);
        Check.same("undo()", x.undo(), 0);
        Check.same("random()", x.random(), 0);
        Check.same("the text is not part of the state", x.append('L'), 1);
    }
}
