/** Promise 28: runScript. */
public final class ScriptTest {
    public static void main(String[] args) {
        steps();
        putting();
        taking();
        limits();
        questions();
        otherGroups();
        order();
        aCopy();
        Check.end();
    }

    /** Grip 0 on slot 0, 1 on slot 3, 2 and 3 in the garage, 4 in the workshop, 5 scrapped; the spacing is 3. */
    private static GripInspector mixed() {
        GripInspector x = Check.lift("L120150939g000g203h2h3g001h0");
        x.step(1);
        x.scrap(5);
        x.setLimit(0, 50);
        return x;
    }

    private static void works(int command) {
        Check.same("runScript(1, " + command + ")", mixed().runScript(1, command), Check.NONE);
    }

    private static void breaks(int command) {
        Check.same("runScript(1, " + command + ")", mixed().runScript(1, command), 0);
        Check.same("runScript(2, 70002 " + command + ")", mixed().runScript(2, 7000200000L + command), 1);
    }

    private static void steps() {
        Check.same("the state", Check.report(mixed()), "a@0 b@3 cg dg ew9 fx");
        works(10001);
        works(10099);
        breaks(10000);
        breaks(10101);
        breaks(11001);
        breaks(10100);
        Check.same("runScript of 2 steps", mixed().runScript(3, 10002_70003_70002L), 1);
        Check.same("runScript of 4 steps", mixed().runScript(3, 10004_70003_80602L), 1);
        Check.same("runScript of 4 steps", mixed().runScript(2, 10004_80602L), 1);
        Check.same("runScript of 5 steps", mixed().runScript(3, 10005_80602_70003L), Check.NONE);
        Check.same("runScript of 8 steps", mixed().runScript(3, 10008_70004_80602L), Check.NONE);
    }

    private static void putting() {
        works(20206);
        works(20306);
        works(20209);
        breaks(20210);
        breaks(20205);
        breaks(20203);
        breaks(20006);
        breaks(20406);
        breaks(20506);
        breaks(20606);
        breaks(21206);
        breaks(29906);
        breaks(20212);
        breaks(20299);
        Check.same("runScript with two of them", mixed().runScript(3, 20206_20309_70004L), Check.NONE);
        Check.same("runScript with a slot twice", mixed().runScript(2, 20206_20306L), 1);
        Check.same("runScript with a grip twice", mixed().runScript(2, 20206_20209L), 1);
        Check.same("runScript then", mixed().runScript(2, 20309_80903L), Check.NONE);
        Check.same("runScript with slots of two digits", Check.lift("L209950923h0").runScript(2, 20019_81900L), Check.NONE);
    }

    private static void taking() {
        works(30000);
        works(30100);
        breaks(30001);
        breaks(30010);
        breaks(30200);
        breaks(30400);
        breaks(30500);
        breaks(30600);
        breaks(31200);
        Check.same("runScript then", mixed().runScript(3, 30100_60101_70001L), Check.NONE);
        Check.same("runScript with takeOff twice", mixed().runScript(2, 30100_30100L), 1);
    }

    private static void limits() {
        int[] greatest = {99, 50, 9, 4, 9};
        for (int what = 0; what < 5; what++) {
            works(40001 + 1000 * what);
            works(40000 + 1000 * what + greatest[what]);
            breaks(40000 + 1000 * what);
            if (what > 0) breaks(40001 + 1000 * what + greatest[what]);
            breaks(40101 + 1000 * what);
        }
        breaks(45001);
        breaks(49001);
        Check.same("runScript with another spacing", mixed().runScript(3, 43001_20204_80402L), Check.NONE);
        Check.same("runScript with another limit", mixed().runScript(3, 40001_10002_50101L), Check.NONE);
        Check.same("runScript with due grips", mixed().runScript(3, 40001_10002_60102L), Check.NONE);
    }

    private static void questions() {
        GripInspector x = Check.lift("L049950923g001g103");
        x.step(48);
        Check.same("50012", x.runScript(1, 50012), Check.NONE);
        Check.same("50011", x.runScript(1, 50011), 0);
        Check.same("50112", x.runScript(1, 50112), Check.NONE);
        Check.same("50212", x.runScript(1, 50212), 0);
        Check.same("51212", x.runScript(1, 51212), 0);
        works(50500);
        works(50401);
        breaks(50600);
        breaks(51200);
        int[] places = {0, 0, 1, 1, 2, 3};
        for (int g = 0; g < 6; g++) {
            for (int p = 0; p <= 19; p++) {
                if (places[g] == p) works(60000 + 100 * g + p);
                else breaks(60000 + 100 * g + p);
            }
        }
        breaks(60600);
        breaks(60601);
        breaks(60603);
        breaks(61200);
        works(70002);
        breaks(70001);
        breaks(70012);
        breaks(70102);
        breaks(71002);
        Check.same("70000", new GripInspector().runScript(1, 70000), Check.NONE);
        works(80000);
        works(80301);
        breaks(80300);
        breaks(80001);
        breaks(80202);
        breaks(80102);
        breaks(80004);
        breaks(80005);
        breaks(80006);
        breaks(81200);
        breaks(81201);
        breaks(80012);
        breaks(80399);
        Check.same("80300 of one that was taken off", mixed().runScript(2, 30100_80301L), 1);
    }

    private static void otherGroups() {
        breaks(0);
        breaks(1);
        breaks(2);
        breaks(99);
        breaks(9999);
        breaks(90000);
        breaks(90001);
        breaks(99999);
    }

    private static void order() {
        GripInspector x = mixed();
        Check.same("runScript(3, 70002)", x.runScript(3, 70002), 0);
        Check.same("runScript(2, 70002)", x.runScript(2, 70002), 0);
        Check.same("runScript(3, 70002 70002)", x.runScript(3, 70002_70002L), 0);
        Check.same("runScript(3, 70002 00000 70002)", x.runScript(3, 70002_00000_70002L), 1);
        Check.same("runScript(3, 70002 70002 00000)", x.runScript(3, 70002_70002_00000L), 2);
        Check.same("runScript(3, 70002 70002 70002)", x.runScript(3, 70002_70002_70002L), Check.NONE);
        Check.same("runScript(3, 0)", x.runScript(3, 0), 0);
    }

    private static void aCopy() {
        GripInspector x = mixed();
        String before = Check.state(x);
        x.runScript(3, 10099_20206_30000L);
        x.runScript(3, 20206_30000_43001L);
        Check.same("the state", Check.state(x), before);
        Check.same("undo()", x.undo(), 2);
    }
}
