/** The boundary sentences of promises 1 to 5 and of TEXTS (the lift). */
final class TextEdges {
    private static final String HEAD = "L081020423";
    private static final String TWELVE = "h0h1h2h3h0h1h2h3h0h1h2h3";
    private static final String LONGEST = "L201020423g000g101g202g303g004g105g206g307g008g109g210g311";

    private TextEdges() {
    }

    static void run() {
        newObject();
        append();
        clearText();
        errorPosition();
        firstThatIsNotAllowed();
        numbersOfTheHead();
        items();
        wrongItems();
        textsThatEndTooSoon();
        load();
        loadOfNoLift();
    }

    private static GripInspector typed(String text) {
        GripInspector x = new GripInspector();
        Check.type(x, text);
        return x;
    }

    private static void error(String text, int due) {
        Check.same("errorPosition() of " + text, typed(text).errorPosition(), due);
    }

    private static void lift(String text) {
        error(text, Check.NONE);
    }

    private static GripInspector fullText() {
        GripInspector x = Check.busy();
        for (int length = 28; length < 60; length++) x.append('h');
        return x;
    }

    private static void newObject() {
        Sentence.of(1, "Creates the lift that is described above.", () -> {
            GripInspector x = new GripInspector();
            Check.fails("undo()", x, Check.STATE, x::undo);
            Check.fails("restore(0)", x, Check.STATE, () -> x.restore(0));
            Check.fails("restore(1)", x, Check.STATE, () -> x.restore(1));
            x.addGrip(2);
            x.append('L');
            x.save(0);
            GripInspector y = new GripInspector();
            Check.same("clearText() of another object", y.clearText(), 0);
            Check.same("about(1) of another object", y.about(1), 0);
            Check.fails("restore(0) of another object", y, Check.STATE, () -> y.restore(0));
        });
        Sentence.of("LINE AND GRIPS", "A new object has 8 slots, no grips, the limit of cycles 10, the limit of slip 20, "
            + "the rate 4, the spacing 2, and the time 3.", () ->
            Check.same("about(..)", Check.about(new GripInspector()), "8 0 0 0 0 0 0 0 10 20 4 2 3"));
        Sentence.of("LINE AND GRIPS", "The station is at one slot, at first slot 0.", () -> {
            Check.same("about(6)", new GripInspector().about(6), 0);
            Check.same("about(6) behind load()", Check.lift("L041020423g003").about(6), 0);
        });
        Sentence.of("LINE AND GRIPS", "There is a random state, a long, which is 0 at first, and the clock, 0 at first.", () -> {
            Check.same("random()", new GripInspector().random(), 0);
            Check.same("about(7)", new GripInspector().about(7), 0);
        });
    }

    private static void append() {
        Sentence.of(2, "c: character code, 0 to 255", () -> {
            GripInspector x = new GripInspector();
            Check.same("append(0)", x.append(0), 1);
            Check.same("append(255)", x.append(255), 2);
        });
        Sentence.of(2, "Throws IllegalArgumentException if c is out of range", () -> {
            Check.refusesBeside(0, 255, "append", Check::busy, Check.ARGUMENT, (x, c) -> x.append(c));
            Check.refuses("append('h' + 256)", Check::busy, Check.ARGUMENT, x -> x.append('h' + 256));
        });
        Sentence.of(2, "Returns the new length of the text.", () -> {
            GripInspector x = new GripInspector();
            for (int length = 1; length <= 60; length++) Check.same("append('h')", x.append('h'), length);
            x.clearText();
            Check.same("append('h') behind clearText()", x.append('h'), 1);
        });
        Sentence.of(2, "Throws IllegalStateException if the text already has 60 characters", () -> {
            GripInspector x = typed(LONGEST + "h");
            Check.same("append('0') to 59", x.append('0'), 60);
            Check.refuses("append('0') to 60", TextEdges::fullText, Check.STATE, y -> y.append('0'));
            Check.refuses("append(255) to 60", TextEdges::fullText, Check.STATE, y -> y.append(255));
        });
        Sentence.of("TEXTS", "The object has a text buffer of at most 60 characters.", () -> {
            GripInspector x = typed(HEAD + TWELVE + "h".repeat(26));
            Check.fails("append('h')", x, Check.STATE, () -> x.append('h'));
            Check.same("clearText()", x.clearText(), 60);
        });
    }

    private static void clearText() {
        Sentence.of(3, "Empties the text buffer.", () -> {
            GripInspector x = typed(HEAD + "g000");
            x.clearText();
            Check.same("errorPosition()", x.errorPosition(), 0);
            Check.type(x, HEAD + "g");
            Check.same("errorPosition() of the next text", x.errorPosition(), 11);
            Check.fails("load() of the next text", x, Check.STATE, x::load);
        });
        Sentence.of(3, "Returns the previous length of the text.", () -> {
            GripInspector x = new GripInspector();
            Check.same("clearText() of nothing", x.clearText(), 0);
            x.append('L');
            Check.same("clearText() of one", x.clearText(), 1);
            Check.same("clearText() again", x.clearText(), 0);
            Check.same("clearText() of a full one", fullText().clearText(), 60);
        });
    }

    private static void errorPosition() {
        Sentence.of(4, "Returns the error position of the text; NONE if it is a lift.", () -> {
            lift(HEAD);
            lift(LONGEST);
            error("", 0);
            error("x".repeat(60), 0);
            Check.changesNothing("errorPosition()", Check::busy, GripInspector::errorPosition);
            Check.changesNothing("errorPosition() of a wrong text", TextEdges::fullText, GripInspector::errorPosition);
        });
        Sentence.of("TEXTS", "A lift is the letter L", () -> {
            error("l081020423", 0);
            error("K081020423", 0);
            error("M081020423", 0);
            error((char) 0 + "081020423", 0);
            error((char) 255 + "081020423", 0);
            error("LL81020423", 1);
        });
        Sentence.of("TEXTS", "The text is read from left to right.", () -> {
            error("L039920423", 2);
            error("L210020423x", 2);
            error(HEAD + "g400x", 11);
            error(HEAD + "g000g001g000g000", 21);
            lift(HEAD + "h0g000");
            error(HEAD + "g007g107", 17);
        });
    }

    private static void firstThatIsNotAllowed() {
        Sentence.of("TEXTS", "The error position is the index of the first character that these rules do not allow at its place",
            () -> {
                String text = "L201050949g319h3g000h0g210";
                for (int i = 0; i < text.length(); i++) {
                    for (char c : new char[] {0, ' ', '/', ':', 'a', 'l', 'G', 'H', 128, 255}) {
                        error(text.substring(0, i) + c + text.substring(i + 1), i);
                        error(text.substring(0, i) + c, i);
                    }
                }
                error(text + "L", text.length());
            });
    }

    private static void numbersOfTheHead() {
        Sentence.of("TEXTS", "two digits for n (04 to 20)", () -> {
            error("L001020423", 2);
            error("L031020423", 2);
            lift("L041020423");
            lift("L201020423");
            error("L211020423", 2);
            error("L0:1020423", 2);
            error("L1/1020423", 2);
        });
        Sentence.of("TEXTS", "two digits for the limit of cycles (01 to 99)", () -> {
            error("L080020423", 4);
            lift("L080120423");
            lift("L089920423");
            error("L08/920423", 3);
            error("L08:020423", 3);
            error("L089:20423", 4);
        });
        Sentence.of("TEXTS", "two digits for the limit of slip (01 to 50)", () -> {
            error("L081000423", 6);
            lift("L081001423");
            lift("L081050423");
            error("L081051423", 6);
            error("L0810/9423", 5);
            error("L08104:423", 6);
        });
        Sentence.of("TEXTS", "a digit each for the rate (1 to 9), the spacing (1 to 4) and the time (1 to 9)", () -> {
            String[] least = {"L081020023", "L081020403", "L081020420"};
            String[] beyond = {"L081020:23", "L081020453", "L08102042:"};
            for (int i = 0; i < 3; i++) {
                error(least[i], 7 + i);
                error(beyond[i], 7 + i);
            }
            lift("L081020111");
            lift("L081020949");
        });
    }

    private static void items() {
        Sentence.of("TEXTS", "and any number of items", () -> {
            lift(HEAD);
            lift(HEAD + "h0");
            lift(HEAD + TWELVE);
            lift(LONGEST);
        });
        Sentence.of("TEXTS", "g, a digit for the weight (0 to 3) and two digits for a slot without a grip "
            + "(a grip on the line, whatever the spacing)", () -> {
            lift(HEAD + "g000");
            lift(HEAD + "g307");
            error(HEAD + "g308", 13);
            error(HEAD + "g400", 11);
            error(HEAD + "g/00", 11);
            error(HEAD + "g30:", 13);
            error(HEAD + "g3/0", 12);
            lift("L041020443g003");
            error("L041020443g004", 13);
            lift("L201020443g019");
            error("L201020443g020", 12);
            lift("L041020443g000g001g002g003");
        });
        Sentence.of("TEXTS", "or h and a digit for the weight (a grip in the garage)", () -> {
            lift(HEAD + "h0");
            lift(HEAD + "h3");
            error(HEAD + "h4", 11);
            error(HEAD + "h/", 11);
            error(HEAD + "i0", 10);
            error(HEAD + "f0", 10);
            error(HEAD + "H0", 10);
            error(HEAD + "G000", 10);
            error(HEAD + (char) 0, 10);
        });
    }

    private static void wrongItems() {
        Sentence.of("TEXTS", "the letter of a thirteenth grip", () -> {
            lift(HEAD + TWELVE);
            error(HEAD + TWELVE + "h", 34);
            error(HEAD + TWELVE + "h0", 34);
            error(HEAD + TWELVE + "g000", 34);
            error(LONGEST + "h0", 58);
            error(LONGEST + "g0", 58);
        });
        Sentence.of("TEXTS", "a g if all slots have grips", () -> {
            String all = "L041020423g000g001g002g003";
            lift(all);
            error(all + "g", 26);
            error(all + "g000", 26);
            lift(all + "h0");
            error(all + "h0g", 28);
            String ten = "L111020423g000g001g002g003g004g005g006g007g008g009";
            lift(ten + "g010");
            error(ten + "g010g0", 54);
        });
        Sentence.of("TEXTS", "the second digit of a slot that has a grip", () -> {
            error(HEAD + "g000g000", 17);
            error(HEAD + "g007h0g107", 19);
            error("L121020423g010g010", 17);
            error("L201020423g019g019", 17);
        });
        Sentence.of("TEXTS", "the first of two digits if no allowed number begins with it", () -> {
            error("L381020423", 1);
            error("L081060423", 5);
            error(HEAD + "g010", 12);
            error("L101020423g010", 12);
            lift("L111020423g010");
            error("L191020423g020", 12);
            error("L111020423g010g010", 16);
            error("L201020423g000g001g002g003g004g005g006g007g008g009g00", 52);
        });
    }

    private static void textsThatEndTooSoon() {
        Sentence.of("TEXTS", "if the text ends too soon, it is the length of the text", () -> {
            String text = "L201050949g319h3";
            for (int length = 0; length <= text.length(); length++) {
                boolean whole = length == 10 || length == 14 || length == 16;
                error(text.substring(0, length), whole ? Check.NONE : length);
            }
            error(LONGEST.substring(0, 57), 57);
        });
    }

    private static void load() {
        Sentence.of(5, "Replaces the lift by that of the text", () -> {
            GripInspector x = Check.lift(LONGEST);
            x.step(99);
            x.clearText();
            Check.type(x, "L040150111g303");
            x.load();
            Check.same("about(..)", Check.about(x), "4 1 1 0 0 0 0 0 1 50 1 1 1");
            Check.same("grip(0, ..)", Check.grip(x, 0), "3 0 0 0 -9 0 3 -9");
            Check.fails("slot(4)", x, Check.INDEX, () -> x.slot(4));
            Check.fails("grip(1, 0)", x, Check.INDEX, () -> x.grip(1, 0));
        });
        Sentence.of(5, "the station is at slot 0, the clock and the random state are 0.", () -> {
            GripInspector x = Check.lift(HEAD);
            x.step(7);
            x.load();
            Check.same("about(6), about(7), random()", x.about(6) + " " + x.about(7) + " " + x.random(), "0 0 0");
        });
        Sentence.of(5, "Forgets all remembered states and empties both save slots.", () -> {
            GripInspector x = Check.busy();
            x.load();
            Check.fails("undo()", x, Check.STATE, x::undo);
            Check.fails("restore(0)", x, Check.STATE, () -> x.restore(0));
            Check.fails("restore(1)", x, Check.STATE, () -> x.restore(1));
            for (int i = 1; i <= 14; i++) x.setRandom(i);
            for (int i = 13; i >= 0; i--) Check.same("undo() of an action since", x.undo(), i);
            Check.fails("undo() behind load()", x, Check.STATE, x::undo);
        });
        Sentence.of(5, "Keeps the text.", () -> {
            GripInspector x = typed(LONGEST);
            x.load();
            Check.same("errorPosition()", x.errorPosition(), Check.NONE);
            Check.same("load() again", x.load(), 12);
            Check.same("clearText()", x.clearText(), 58);
        });
        Sentence.of(5, "Returns the number of grips.", () -> {
            Check.same("load() without grips", typed(HEAD).load(), 0);
            Check.same("load() of one", typed(HEAD + "g000").load(), 1);
            Check.same("load() of twelve", typed(HEAD + TWELVE).load(), 12);
            Check.same("load() of twelve on the line", typed(LONGEST).load(), 12);
        });
    }

    private static void loadOfNoLift() {
        Sentence.of(5, "Throws IllegalStateException if the text is not a lift", () -> {
            for (String text : new String[] {"", "L", "L08102042", HEAD + "g00", HEAD + "h", HEAD + TWELVE + "h0",
                HEAD + "g000g000", "L041020423g000g001g002g003g0", "L041020423h0h1 ", "L211020423"}) {
                Check.refuses("load() of " + text, () -> {
                    GripInspector x = Check.busy();
                    x.clearText();
                    Check.type(x, text);
                    return x;
                }, Check.STATE, GripInspector::load);
            }
            Check.refuses("load() of a full text", TextEdges::fullText, Check.STATE, GripInspector::load);
        });
    }
}
