/** Promises 24 to 27 and 29: forecasts and simulations. */
public final class ForecastTest {
    private static final String[] LIFTS = {"L080520413g100g303h2h0g207", "L040102211g001g302h1", "L200902944g119g210h3h3",
        "L059901122g301g302h0h1", "L063003219g100g201g302g303g304g305h0h1h2h3h0h1"};

    public static void main(String[] args) {
        ahead();
        happensByHand();
        happensAsSteps();
        bestLimitByHand();
        bestLimitAsSteps();
        emptyAfter();
        simulate();
        Check.end();
    }

    private static void ahead() {
        for (String text : LIFTS) {
            GripInspector x = Check.lift(text);
            GripInspector y = Check.lift(text);
            x.step(7);
            String before = Check.state(x);
            y.step(7);
            for (int m = 0; m <= 99; m++) {
                for (int g = 0; g < x.about(1); g++) {
                    for (int what = 0; what <= 7; what++) {
                        Check.same("ahead(" + g + ", " + m + ", " + what + ")", x.ahead(g, m, what), y.grip(g, what));
                    }
                }
                y.step(1);
            }
            Check.same("the state", Check.state(x), before);
            Check.same("undo()", x.undo(), 0);
        }
        GripInspector x = Check.lift("L049950943g202");
        Check.same("ahead(0, 6, 2) by hand", x.ahead(0, 6, 2), 6);
        Check.same("ahead(0, 5, 1) by hand", x.ahead(0, 5, 1), 1);
        Check.same("ahead(0, 5, 6) by hand", x.ahead(0, 5, 6), 2);
    }

    private static String happenings(GripInspector x, int m) {
        return x.happens(m, 0) + " " + x.happens(m, 1) + " " + x.happens(m, 2) + " " + x.happens(m, 3);
    }

    private static void happensByHand() {
        GripInspector x = Check.lift("L049903923g001h3");
        x.setRandom(Check.stateBefore(1));
        Check.same("happens(1, ..) not picked", happenings(x, 1), "0 0 0 0");
        x.setRandom(Check.stateBefore(9));
        Check.same("happens(1, ..) picked", happenings(x, 1), "1 0 0 0");
        x.setRandom(Check.stateBefore(16 * 9));
        Check.same("happens(1, ..) slipping", happenings(x, 1), "1 0 1 1");
        x.setLimit(0, 1);
        Check.same("happens(1, ..) due and slipping", happenings(x, 1), "1 1 0 1");
        x.setRandom(Check.stateBefore(1));
        Check.same("happens(1, ..) due", happenings(x, 1), "1 1 0 1");
        x.scrap(1);
        Check.same("happens(1, ..) without a garage", happenings(x, 1), "1 1 0 0");
        Check.same("happens(3, ..)", happenings(x, 3), "1 1 0 0");
        Check.same("happens(4, ..) put on out of the workshop", happenings(x, 4), "1 1 0 1");
    }

    private static void happensAsSteps() {
        for (String text : LIFTS) {
            GripInspector x = Check.lift(text);
            GripInspector y = Check.lift(text);
            String before = Check.state(x);
            int[] due = new int[4];
            for (int m = 1; m <= 99; m++) {
                count(y, due);
                Check.same("happens(" + m + ", ..)", happenings(x, m), due[0] + " " + due[1] + " " + due[2] + " " + due[3]);
            }
            Check.same("the state", Check.state(x), before);
        }
    }

    private static void count(GripInspector y, int[] due) {
        int passing = y.slot((y.about(6) + 1) % y.about(0));
        int pulls = passing < 0 ? 0 : y.grip(passing, 3);
        int cycles = passing < 0 ? 0 : y.grip(passing, 1) + 1;
        y.step(1);
        if (passing >= 0) {
            due[0] += y.grip(passing, 3) - pulls;
            boolean gone = y.grip(passing, 5) == 2;
            if (gone && cycles >= y.about(8)) due[1]++;
            if (gone && cycles < y.about(8)) due[2]++;
        }
        int there = y.slot(y.about(6));
        if (there >= 0 && there != passing) due[3]++;
    }

    private static void bestLimitByHand() {
        GripInspector x = new GripInspector();
        Check.same("bestLimit(99) without grips", x.bestLimit(99), 99);
        GripInspector y = Check.lift("L041001123g301");
        Check.same("bestLimit(99) with slips at the second pass or before", y.bestLimit(99) <= 2 ? 1 : 0, 1);
        y.setRandom(Check.stateBefore(0));
        Check.same("bestLimit(4)", y.bestLimit(4), 99);
        y.setRandom(Check.stateBefore(16));
        Check.same("bestLimit(1) with a slip at the first pass", y.bestLimit(1), 1);
        y.setLimit(2, 9);
        y.setRandom(Check.stateBefore(1));
        Check.same("bestLimit(1) of a grip that is not picked", y.bestLimit(1), 99);
        y.step(4);
        y.setRandom(Check.stateBefore(9 * 16));
        Check.same("bestLimit(1) with a slip at the second pass", y.bestLimit(1), 2);
    }

    private static void bestLimitAsSteps() {
        for (String text : LIFTS) {
            GripInspector x = Check.lift(text);
            for (int m = 1; m <= 99; m += 7) {
                int due = Check.NONE;
                for (int limit = 1; limit <= 99; limit++) {
                    GripInspector y = Check.lift(text);
                    y.setLimit(0, limit);
                    if (y.happens(m, 2) == 0) due = limit;
                }
                Check.same("bestLimit(" + m + ")", x.bestLimit(m), due);
            }
            Check.same("about(8)", x.about(8), Check.lift(text).about(8));
        }
    }

    private static void emptyAfter() {
        Check.same("emptyAfter() of a new object", new GripInspector().emptyAfter(), 0);
        Check.same("emptyAfter() with a garage alone", Check.lift("L080120429h0h1").emptyAfter(), 0);
        Check.same("emptyAfter()", Check.lift("L080120429g005").emptyAfter(), 5);
        Check.same("emptyAfter() at the station", Check.lift("L080120429g000").emptyAfter(), 8);
        Check.same("emptyAfter() of two", Check.lift("L200150429g019g011").emptyAfter(), 19);
        Check.same("emptyAfter() with one back in time", Check.lift("L200150429g019g010").emptyAfter(), Check.NONE);
        Check.same("emptyAfter() with a garage", Check.lift("L080120429g005h0").emptyAfter(), 9);
        Check.same("emptyAfter() with a short time", Check.lift("L080120421g001g003").emptyAfter(), Check.NONE);
    }

    private static void simulate() {
        for (String text : LIFTS) {
            GripInspector x = Check.lift(text);
            x.step(50);
            x.scrap(0);
            String before = Check.state(x);
            for (long seed : new long[] {0, 1, -1, Long.MIN_VALUE, Long.MAX_VALUE, 123456789012345L}) {
                for (int m : new int[] {1, 2, 50, 99}) {
                    GripInspector y = Check.lift(text);
                    y.step(50);
                    y.scrap(0);
                    y.setRandom(seed);
                    y.step(m);
                    int pulls = 0;
                    for (int g = 0; g < y.about(1); g++) pulls += y.grip(g, 3);
                    Check.same("simulate(" + seed + ", " + m + ")", x.simulate(seed, m), 100 * pulls + y.about(2));
                }
            }
            Check.same("the state", Check.state(x), before);
        }
        GripInspector x = Check.lift("L049950923g001g303h1");
        Check.same("simulate(.., 1) picked", x.simulate(Check.stateBefore(9), 1), 102);
        Check.same("simulate(.., 1) not picked", x.simulate(Check.stateBefore(10), 1), 2);
        x.setLimit(0, 1);
        x.step(1);
        x.scrap(0);
        Check.same("simulate(.., 1) with a scrapped one", x.simulate(Check.stateBefore(10), 1), 102);
    }
}
