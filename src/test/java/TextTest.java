import java.util.HashMap;
import java.util.Map;

/** Promises 1 to 5: a new object and the text. */
public final class TextTest {
    private static final String HEAD = "L0401011111";
    private static final Map<String, Boolean> KNOWN = new HashMap<>();

    public static void main(String[] args) {
        newObject();
        append();
        clearText();
        errorPositionOfTheHead();
        errorPositionOfItems();
        errorPositionByItsDefinition();
        load();
        loadForgets();
        loadForgetsForecasts();
        loadOfWrongTexts();
        Check.end();
    }

    private static void newObject() {
        GripInspector x = new GripInspector();
        Check.same("NONE", GripInspector.NONE, -9);
        Check.same("about(..)", Check.about(x), "8 0 0 0 0 0 0 0 10 20 4 2 3");
        Check.same("random()", x.random(), 0);
        Check.same("report(0)", x.report(0), Check.NONE);
        Check.same("errorPosition()", x.errorPosition(), 0);
        for (int i = 0; i < 8; i++) Check.same("slot(" + i + ")", x.slot(i), Check.NONE);
        Check.fails("slot(8)", x, Check.INDEX, () -> x.slot(8));
        Check.fails("grip(0, 0)", x, Check.INDEX, () -> x.grip(0, 0));
        Check.fails("undo()", x, Check.STATE, x::undo);
        Check.fails("load()", x, Check.STATE, x::load);
        Check.fails("restore(0)", x, Check.STATE, () -> x.restore(0));
        Check.fails("restore(1)", x, Check.STATE, () -> x.restore(1));
        Check.same("clearText()", x.clearText(), 0);
        GripInspector y = new GripInspector();
        y.addGrip(1);
        Check.same("about(1) of another object", x.about(1), 0);
    }

    private static void append() {
        GripInspector x = new GripInspector();
        Check.fails("append(-1)", x, Check.ARGUMENT, () -> x.append(-1));
        Check.fails("append(256)", x, Check.ARGUMENT, () -> x.append(256));
        Check.fails("append(greatest)", x, Check.ARGUMENT, () -> x.append(Integer.MAX_VALUE));
        Check.fails("append(smallest)", x, Check.ARGUMENT, () -> x.append(Integer.MIN_VALUE));
        Check.same("append(0)", x.append(0), 1);
        Check.same("append(255)", x.append(255), 2);
        for (int length = 3; length <= 60; length++) Check.same("append('L')", x.append('L'), length);
        Check.fails("append('L') to 60", x, Check.STATE, () -> x.append('L'));
        Check.fails("append(256) to 60", x, Check.ARGUMENT, () -> x.append(256));
        Check.same("clearText()", x.clearText(), 60);
        Check.same("append(0) then", x.append(0), 1);
    }

    private static void clearText() {
        GripInspector x = new GripInspector();
        Check.type(x, "L0403");
        Check.same("clearText()", x.clearText(), 5);
        Check.same("clearText() again", x.clearText(), 0);
        Check.same("errorPosition() of nothing", x.errorPosition(), 0);
        Check.type(x, "L0810204231h0");
        Check.same("errorPosition() of a new text", x.errorPosition(), 10);
    }

    private static int errorIn(String text) {
        GripInspector x = new GripInspector();
        Check.type(x, text);
        return x.errorPosition();
    }

    private static void error(String text, int due) {
        Check.same("errorPosition() of " + text, errorIn(text), due);
    }

    private static void errorPositionOfTheHead() {
        String whole = "L081020423";
        for (int i = 0; i < whole.length(); i++) error(whole.substring(0, i), i);
        error(whole, Check.NONE);
        error("l081020423", 0);
        error("L381020423", 1);
        error("L031020423", 2);
        error("L041020423", Check.NONE);
        error("L201020423", Check.NONE);
        error("L211020423", 2);
        error("L191020423", Check.NONE);
        error("L/81020423", 1);
        error("L:81020423", 1);
        error("L080020423", 4);
        error("L080120423", Check.NONE);
        error("L089920423", Check.NONE);
        error("L08A020423", 3);
        error("L081000423", 6);
        error("L081001423", Check.NONE);
        error("L081050423", Check.NONE);
        error("L081051423", 6);
        error("L081060423", 5);
        error("L081020023", 7);
        error("L081020923", Check.NONE);
        error("L081020403", 8);
        error("L081020443", Check.NONE);
        error("L081020453", 8);
        error("L081020420", 9);
        error("L081020429", Check.NONE);
        error("L08102042" + (char) 255, 9);
        error("L081020423" + (char) 0, 10);
        error("L081020423L", 10);
    }

    private static void errorPositionOfItems() {
        String head = "L081020423";
        error(head + "g", 11);
        error(head + "g4", 11);
        error(head + "g3", 12);
        error(head + "g30", 13);
        error(head + "g307", Check.NONE);
        error(head + "g308", 13);
        error(head + "g310", 12);
        error(head + "h", 11);
        error(head + "h3", Check.NONE);
        error(head + "h4", 11);
        error(head + "h3 ", 12);
        error(head + "h3h", 13);
        error(head + "g000g001", Check.NONE);
        error(head + "g000h2g000", 19);
        error("L111020423g010", Check.NONE);
        error("L111020423g010g010", 16);
        error("L111020423g010g009", Check.NONE);
        error("L121020423g010g010", 17);
        error("L201020423g019g020", 16);
        error("L041020423g000g001g002g003", Check.NONE);
        error("L041020423g000g001g002g003g", 26);
        error("L041020423g000g001g002g003h", 27);
        error("L041020423g000g001g002g003h0", Check.NONE);
        error("L101020423g000g001g002g003g004g005g006g007g008g009", Check.NONE);
        error("L101020423g000g001g002g003g004g005g006g007g008g009g", 50);
        error("L111020423g000g001g002g003g004g005g006g007g008g009g00", 52);
        error("L111020423g000g001g002g003g004g005g006g007g008g009g010", Check.NONE);
        String twelve = "h0h1h2h3h0h1h2h3h0h1h2h3";
        error(head + twelve, Check.NONE);
        error(head + twelve + "h", 34);
        error(head + twelve + "g", 34);
        error(head + twelve + "x", 34);
        String line = "L201020423g000g101g202g303g004g105g206g307g008g109g210g311";
        error(line, Check.NONE);
        error(line + "h", 58);
        error(line + "h0", 58);
    }

    /** The error is at the first character behind which no text goes on to a lift. */
    private static void errorPositionByItsDefinition() {
        String[] texts = {HEAD, "L1120191492g010g010", "L2010204231h2g119g119", "L0410204231g000g002g001g003g001", "L05",
            "L3", "L1399504499g312g010g011g010g01", "L0699494199h0g004g006", "L0401011111g100g101g200"};
        long random = 5;
        for (String text : texts) {
            for (int change = 0; change < 12; change++) {
                StringBuilder signs = new StringBuilder(text);
                for (int i = 0; i < change / 4; i++) {
                    random = Check.stateAfter(random);
                    int at = (int) ((random >>> 33) % signs.length());
                    random = Check.stateAfter(random);
                    signs.setCharAt(at, "Lgh0123456789".charAt((int) ((random >>> 33) % 13)));
                }
                error(signs.toString(), firstHopeless(signs.toString()));
            }
        }
    }

    private static int firstHopeless(String text) {
        for (int length = 0; length <= text.length(); length++) {
            if (!KNOWN.computeIfAbsent(text.substring(0, length), TextTest::goesOn)) return length - 1;
        }
        return isLift(text) ? Check.NONE : text.length();
    }

    private static boolean goesOn(String start) {
        for (String tail : new String[] {"", "1", "11", "111", "01111", "0101111", "000101111", "L0401011111".substring(1)}) {
            for (int digits = 0, many = 1; digits <= 3; digits++, many *= 10) {
                for (int number = 0; number < many; number++) {
                    String middle = digits == 0 ? "" : String.format("%0" + digits + "d", number);
                    if (isLift(start + middle + tail)) return true;
                }
            }
        }
        return start.isEmpty();
    }

    private static boolean isLift(String text) {
        if (!text.matches("L(0[4-9]|1[0-9]|20)(0[1-9]|[1-9][0-9])(0[1-9]|[1-4][0-9]|50)[1-9][1-4][1-9](g[0-3][0-9]{2}|h[0-3])*")) {
            return false;
        }
        int n = Integer.parseInt(text.substring(1, 3));
        boolean[] taken = new boolean[100];
        int items = 0;
        for (int i = 10; i < text.length(); items++) {
            if (text.charAt(i) == 'g') {
                int slot = Integer.parseInt(text.substring(i + 2, i + 4));
                if (slot >= n || taken[slot]) return false;
                taken[slot] = true;
                i += 4;
            } else {
                i += 2;
            }
        }
        return items <= 12;
    }

    private static void load() {
        GripInspector x = new GripInspector();
        Check.type(x, "L123446748g311h2g000g101");
        Check.same("load()", x.load(), 4);
        Check.same("about(..)", Check.about(x), "12 4 3 1 0 0 0 0 34 46 7 4 8");
        Check.same("grip(0, ..)", Check.grip(x, 0), "3 0 0 0 -9 0 11 -9");
        Check.same("grip(1, ..)", Check.grip(x, 1), "2 0 0 0 -9 1 -9 -9");
        Check.same("grip(2, ..)", Check.grip(x, 2), "0 0 0 0 -9 0 0 -9");
        Check.same("grip(3, ..)", Check.grip(x, 3), "1 0 0 0 -9 0 1 -9");
        Check.same("report", Check.report(x), "a@11 bg c@0 d@1");
        Check.same("the text is kept", x.clearText(), 24);
        Check.type(x, "L200150911");
        Check.same("load() without grips", x.load(), 0);
        Check.same("about(..)", Check.about(x), "20 0 0 0 0 0 0 0 1 50 9 1 1");
    }

    private static void loadForgets() {
        GripInspector x = Check.lift("L081020423g000g003");
        x.setRandom(7);
        x.step(9);
        x.save(0);
        x.save(1);
        Check.same("load() again", x.load(), 2);
        Check.same("about(..)", Check.about(x), "8 2 2 0 0 0 0 0 10 20 4 2 3");
        Check.same("random()", x.random(), 0);
        Check.same("grip(0, ..)", Check.grip(x, 0), "0 0 0 0 -9 0 0 -9");
        Check.fails("undo()", x, Check.STATE, x::undo);
        Check.fails("restore(0)", x, Check.STATE, () -> x.restore(0));
        Check.fails("restore(1)", x, Check.STATE, () -> x.restore(1));
        x.step(1);
        Check.same("undo() of the first action since", x.undo(), 0);
        Check.fails("undo() behind load()", x, Check.STATE, x::undo);
    }

    private static void loadForgetsForecasts() {
        GripInspector x = Check.lift("L081020413g000g003");
        x.step(50);
        x.simulate(3, 99);
        x.load();
        Check.same("about(..)", Check.about(x), "8 2 2 0 0 0 0 0 10 20 4 1 3");
        Check.same("random()", x.random(), 0);
        Check.same("grip(0, ..)", Check.grip(x, 0), "0 0 0 0 -9 0 0 -9");
        Check.same("grip(1, ..)", Check.grip(x, 1), "0 0 0 0 -9 0 3 -9");
    }

    private static void loadOfWrongTexts() {
        GripInspector x = Check.lift("L061020423g100h2");
        x.step(3);
        x.save(1);
        x.clearText();
        Check.type(x, "L201020423g019h3g0");
        Check.fails("load() of a text that ends too soon", x, Check.STATE, x::load);
        x.append('1');
        x.append('9');
        Check.fails("load() with a slot twice", x, Check.STATE, x::load);
        Check.same("restore(1)", x.restore(1), 3);
        x.step(2);
        Check.fails("load() behind a step", x, Check.STATE, x::load);
        Check.same("undo()", x.undo(), 0);
        Check.same("about(..)", Check.about(x), "6 2 2 0 0 0 3 3 10 20 4 2 3");
    }
}
