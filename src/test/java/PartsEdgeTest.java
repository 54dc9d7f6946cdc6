/** The edges that promises 10 to 18 and 33 to 38 name, a sentence each. */
public final class PartsEdgeTest {
    /** 0 - 1 - 2, PARTS 400000, 200000, 200000, OUT 200000. */
    private static final String CHAIN = "house moves 50 here 80 worth 100 price 5;room people 10 hears 50 sits 2;"
            + "room people 20 hears 80 sits 1;room people 5 hears 25 sits 1;door 0 1;door 1 2;";
    private static final String EMPTY = "house moves 50 here 80 worth 100 price 5;";
    private static final int[] FAR = {Integer.MIN_VALUE, -1000000, -2, 3, 7, 2000000, Integer.MAX_VALUE};

    public static void main(String[] args) {
        parts();
        found();
        likely();
        here();
        chance();
        call();
        callRefused();
        undo();
        anew();
        later();
        rest();
        trumpet();
        quiet();
        quietly();
        card();
        desk();
        Check.finish();
    }

    private static String house(int moves, int here) {
        return "house moves " + moves + " here " + here + " worth 1 price 1;";
    }

    private static String room(int people, int hears, int sits) {
        return "room people " + people + " hears " + hears + " sits " + sits + ";";
    }

    private static void parts() {
        Check.says("10", "PARTS of a ROOM (NONE: OUT) now (II).");
        CallForBrown x = Check.told(CHAIN);
        Check.due("parts(NONE)", x.parts(-1), 200000);
        Check.due("parts(0)", x.parts(0), 400000);
        Check.due("parts(2), the last", x.parts(2), 200000);
        x.call(-1);
        Check.due("parts(2) now", x.parts(2), 150000);
        Check.due("parts(NONE) now", x.parts(-1), 200000);
        Check.says("10", "-2: there is none such, no HOUSE.");
        for (int far : FAR) {
            Check.due("parts(" + far + ")", x.parts(far), -2);
        }
        CallForBrown empty = Check.told(EMPTY);
        Check.due("parts(0) without ROOMS", empty.parts(0), -2);
        Check.due("parts(NONE) without ROOMS", empty.parts(-1), 1000000);
        Check.due("parts(NONE) without a HOUSE", new CallForBrown().parts(-1), -2);
        Check.due("parts(0) without a HOUSE", new CallForBrown().parts(0), -2);
    }

    private static void found() {
        Check.says("11", "FOUND so far.");
        CallForBrown x = Check.told(house(0, 100) + room(1, 100, 1) + room(1, 50, 1));
        Check.due("nothing yet", x.found(), 0);
        x.call(0);
        Check.due("a half", x.found(), 500000);
        x.call(1);
        Check.due("a quarter more", x.found(), 750000);
        x.call(2);
        Check.due("a refused one finds nothing", x.found(), 750000);
        CallForBrown all = Check.told(house(0, 100) + room(1, 100, 1));
        all.call(0);
        Check.due("all", all.found(), 1000000);
        all.call(0);
        Check.due("no more than all", all.found(), 1000000);
        Check.says("11", "-2: there is no HOUSE.");
        Check.due("found() without a HOUSE", new CallForBrown().found(), -2);
        Check.due("found() without ROOMS", Check.told(EMPTY).found(), 0);
    }

    private static void likely() {
        Check.says("12", "The ROOM with most PARTS now, the first of several.");
        Check.due("the last", Check.told(house(0, 100) + room(1, 1, 1) + room(1, 1, 1) + room(1, 1, 2)).likely(), 2);
        Check.due("two like ones", Check.told(house(0, 100) + room(1, 1, 1) + room(1, 1, 2) + room(1, 1, 2)).likely(), 1);
        Check.due("all like", Check.told(house(0, 100) + room(1, 1, 1) + room(1, 1, 1)).likely(), 0);
        Check.due("nobody", Check.told(house(0, 0) + room(1, 1, 1) + room(1, 1, 9)).likely(), 0);
        Check.due("OUT is no ROOM", Check.told(house(0, 1) + room(1, 1, 0) + room(1, 1, 9)).likely(), 1);
        CallForBrown x = Check.told(CHAIN);
        x.call(-1);
        Check.due("now", x.likely(), 1);
        Check.says("12", "NONE: there are no ROOMS; -2: there is no HOUSE.");
        Check.due("without ROOMS", Check.told(EMPTY).likely(), -1);
        Check.due("without a HOUSE", new CallForBrown().likely(), -2);
    }

    private static void here() {
        Check.says("13", "now that nobody was FOUND, in a million, cut (0, if all is FOUND).");
        CallForBrown all = Check.told(house(0, 100) + room(1, 100, 1));
        Check.due("surely", all.here(), 1000000);
        all.call(0);
        Check.due("all is FOUND", all.here(), 0);
        CallForBrown half = Check.told(house(0, 100) + room(1, 50, 1));
        half.call(0);
        Check.due("surely yet", half.here(), 1000000);
        CallForBrown x = Check.told(CHAIN);
        x.call(1);
        // 640000 of 840000.
        Check.due("cut", x.here(), 761904);
        CallForBrown last = Check.told(house(0, 100) + room(1, 100, 1) + room(1, 100, 1) + room(1, 99, 1));
        last.call(0);
        last.call(1);
        last.call(2);
        // 333333 - 329999 of 1000000 - 666666 - 329999.
        Check.due("little is left", last.here(), 999700);
        Check.due("nobody", Check.told(house(0, 0) + room(1, 1, 1)).here(), 0);
        Check.due("without ROOMS", Check.told(EMPTY).here(), 0);
        Check.says("13", "-2: there is no HOUSE.");
        Check.due("without a HOUSE", new CallForBrown().here(), -2);
    }

    private static void chance() {
        Check.says("14", "now that nobody was FOUND, in a million, cut (0, if all is FOUND).");
        CallForBrown x = Check.told(CHAIN);
        x.call(1);
        // 210000, 320000, 110000, 200000 of 840000.
        Check.due("chance(0)", x.chance(0), 250000);
        Check.due("chance(1)", x.chance(1), 380952);
        Check.due("chance(2)", x.chance(2), 130952);
        Check.due("chance(NONE)", x.chance(-1), 238095);
        CallForBrown all = Check.told(house(0, 100) + room(1, 100, 1));
        Check.due("surely", all.chance(0), 1000000);
        Check.due("surely not OUT", all.chance(-1), 0);
        all.call(0);
        Check.due("all is FOUND", all.chance(0), 0);
        Check.due("not OUT either", all.chance(-1), 0);
        CallForBrown thirds = Check.told(house(0, 100) + room(1, 100, 1) + room(1, 100, 1) + room(1, 100, 1));
        thirds.call(0);
        thirds.call(1);
        thirds.call(2);
        Check.due("all but one is FOUND", thirds.found(), 999999);
        Check.due("the one is OUT", thirds.chance(-1), 1000000);
        Check.due("and in no ROOM", thirds.chance(2), 0);
        Check.says("14", "-2: there is none such, no HOUSE.");
        for (int far : FAR) {
            Check.due("chance(" + far + ")", x.chance(far), -2);
        }
        Check.due("chance(0) without ROOMS", Check.told(EMPTY).chance(0), -2);
        Check.due("chance(NONE) without ROOMS", Check.told(EMPTY).chance(-1), 1000000);
        Check.due("chance(NONE) without a HOUSE", new CallForBrown().chance(-1), -2);
    }

    private static void call() {
        Check.says("15", "A CALL in a ROOM (NONE: none) and the MINUTE: how much is FOUND by it.");
        CallForBrown x = Check.told(CHAIN);
        Check.due("call(NONE)", x.call(-1), 0);
        Check.due("the MINUTE", x.parts(1), 400000);
        Check.due("no CALL", x.found(), 0);
        Check.due("call(1)", x.call(1), 320000);
        Check.due("by it alone", x.call(1), (400000 - 320000 - 40000 + 125000 + 75000) * 80 / 100);
        CallForBrown deaf = Check.told(house(0, 100) + room(1, 0, 1));
        Check.due("nothing is heard", deaf.call(0), 0);
        Check.due("but the MINUTE counts", deaf.count(6), 1);
        Check.due("NONE without ROOMS", Check.told(EMPTY).call(-1), 0);
        CallForBrown few = Check.told(house(0, 1) + room(1, 1, 1) + room(1, 1, 99));
        Check.due("one PART of a hundred", few.call(0), 1);
        Check.due("the rest", few.parts(0), 99);
        Check.due("none of 99", few.call(0), 0);
        Check.due("one is FOUND", few.found(), 1);
    }

    private static void callRefused() {
        Check.says("15", "-5: there were 60");
        CallForBrown x = Check.told(CHAIN);
        for (int i = 0; i < 59; i++) {
            Check.due("call " + i, x.call(-1), 0);
        }
        Check.due("the 60th", x.call(0) > 0 ? 1 : 0, 1);
        String seen = Check.look(x);
        Check.due("the 61st", x.call(0), -5);
        Check.due("the 61st without a CALL", x.call(-1), -5);
        Check.due("-2 ahead of -5", x.call(3), -2);
        Check.stays("the 61st", x, seen);
        x.undo();
        Check.due("one taken back", x.call(-1), 0);
        Check.due("sixty again", x.call(-1), -5);
        Check.says("15", "-2: there is no such ROOM, no HOUSE.");
        CallForBrown y = Check.told(CHAIN);
        y.call(2);
        seen = Check.look(y);
        for (int far : FAR) {
            Check.due("call(" + far + ")", y.call(far), -2);
        }
        Check.stays("no such ROOM", y, seen);
        Check.due("call(0) without ROOMS", Check.told(EMPTY).call(0), -2);
        CallForBrown none = new CallForBrown();
        Check.due("call(NONE) without a HOUSE", none.call(-1), -2);
        Check.due("no MINUTE came", none.count(6), 0);
    }

    private static void undo() {
        Check.says("16", "The latest MINUTE is taken back: how many there are.");
        CallForBrown x = Check.told("house moves 33 here 77 worth 9 price 1;" + room(1, 37, 5) + room(1, 53, 7)
                + room(1, 91, 3) + "door 0 1;door 1 2;");
        String[] seen = new String[4];
        int[] calls = {1, -1, 0};
        for (int i = 0; i < 3; i++) {
            seen[i] = Check.look(x);
            x.call(calls[i]);
        }
        for (int i = 2; i >= 0; i--) {
            Check.due("undo() to " + i, x.undo(), i);
            Check.stays("undo() to " + i, x, seen[i]);
        }
        Check.says("16", "-5: there is none; -2: there is no HOUSE.");
        Check.due("undo() of none", x.undo(), -5);
        Check.stays("undo() of none", x, seen[0]);
        Check.due("without a HOUSE", new CallForBrown().undo(), -2);
        Check.due("without ROOMS", Check.told(EMPTY).undo(), -5);
        x.call(0);
        x.anew();
        Check.due("behind anew()", x.undo(), -5);
    }

    private static void anew() {
        Check.says("17", "All are: how many there were.");
        CallForBrown x = Check.told(CHAIN);
        String seen = Check.look(x);
        Check.due("of none", x.anew(), 0);
        x.call(0);
        Check.due("of one", x.anew(), 1);
        Check.stays("anew()", x, seen);
        for (int i = 0; i < 60; i++) {
            x.call(i % 4 - 1);
        }
        Check.due("of sixty", x.anew(), 60);
        Check.stays("anew() of sixty", x, seen);
        Check.due("again", x.anew(), 0);
        Check.says("17", "-2 likewise.");
        Check.due("without a HOUSE", new CallForBrown().anew(), -2);
        Check.due("without ROOMS", Check.told(EMPTY).anew(), 0);
    }

    private static void later() {
        Check.says("18", "PARTS of a ROOM (NONE: OUT), n (0 .. 200) MINUTES from now on without a CALL.");
        CallForBrown x = Check.told(CHAIN);
        Check.due("later(0, 0)", x.later(0, 0), 400000);
        Check.due("later(0, 1)", x.later(0, 1), 250000);
        Check.due("later(NONE, 0)", x.later(-1, 0), 200000);
        Check.due("later(NONE, 200)", x.later(-1, 200), 200000);
        CallForBrown fro = Check.told(house(100, 100) + room(1, 1, 1) + room(1, 1, 0) + "door 0 1;");
        Check.due("to and fro, 200", fro.later(0, 200), 1000000);
        Check.due("to and fro, 199", fro.later(0, 199), 0);
        for (int i = 0; i < 60; i++) {
            x.call(-1);
        }
        Check.due("behind sixty too", x.later(-1, 200), 200000);
        Check.says("18", "-2: there are none such, no HOUSE.");
        String seen = Check.look(x);
        Check.due("later(0, -1)", x.later(0, -1), -2);
        Check.due("later(0, 201)", x.later(0, 201), -2);
        Check.due("later(NONE, 201)", x.later(-1, 201), -2);
        Check.due("later(0, most)", x.later(0, Integer.MAX_VALUE), -2);
        Check.due("later(0, least)", x.later(0, Integer.MIN_VALUE), -2);
        for (int far : FAR) {
            Check.due("later(" + far + ", 0)", x.later(far, 0), -2);
        }
        Check.stays("later()", x, seen);
        Check.due("later(0, 0) without ROOMS", Check.told(EMPTY).later(0, 0), -2);
        Check.due("later(NONE, 0) without a HOUSE", new CallForBrown().later(-1, 0), -2);
    }

    private static void rest() {
        Check.says("33", "The fewest MINUTES (0 .. 200) from now on, without CALLS, behind which one more changes no PARTS.");
        String pair = room(1, 1, 1) + room(1, 1, 0) + "door 0 1;";
        Check.due("nobody moves", Check.told(house(0, 100) + pair).rest(), 0);
        Check.due("nobody is here", Check.told(house(50, 0) + pair).rest(), 0);
        Check.due("no doors", Check.told(house(100, 100) + room(1, 1, 1) + room(1, 1, 0)).rest(), 0);
        Check.due("without ROOMS", Check.told(EMPTY).rest(), 0);
        Check.due("as many come as go", Check.told(house(100, 100) + room(1, 1, 1) + room(1, 1, 1) + "door 0 1;").rest(), 0);
        Check.due("halves", Check.told(house(50, 100) + pair).rest(), 1);
        Check.due("200", Check.told(house(2, 5) + pair).rest(), 200);
        Check.says("33", "NONE: it does so long; -2: there is no HOUSE.");
        CallForBrown long201 = Check.told(house(2, 26) + room(1, 1, 2) + room(1, 1, 3) + "door 0 1;");
        Check.due("201", long201.rest(), -1);
        long201.call(-1);
        Check.due("200 from now on", long201.rest(), 200);
        Check.due("to and fro", Check.told(house(100, 100) + pair).rest(), -1);
        Check.due("without a HOUSE", new CallForBrown().rest(), -2);
    }

    private static void trumpet() {
        Check.says("34", "TRUMPET: how much a CALL in all ROOMS at once would find now.");
        CallForBrown thirds = Check.told(house(0, 100) + room(1, 50, 1) + room(1, 50, 1) + room(1, 50, 1));
        Check.due("each is cut", thirds.trumpet(), 3 * 166666);
        Check.due("nothing is FOUND by it", thirds.found(), 0);
        CallForBrown all = Check.told(house(0, 100) + room(1, 100, 1));
        Check.due("all", all.trumpet(), 1000000);
        all.call(0);
        Check.due("nothing more", all.trumpet(), 0);
        Check.due("nothing is heard", Check.told(house(0, 100) + room(1, 0, 1)).trumpet(), 0);
        Check.due("without ROOMS", Check.told(EMPTY).trumpet(), 0);
        Check.says("34", "-2: there is no HOUSE.");
        Check.due("without a HOUSE", new CallForBrown().trumpet(), -2);
    }

    private static void quiet() {
        Check.says("35", "by which n (0 .. 1,000,000) PARTS at least are FOUND now.");
        CallForBrown x = Check.told(CHAIN);
        // 200000 by 10 people, 160000 by 20, 50000 by 5.
        int[] n = {0, 1, 50000, 50001, 200000, 200001, 250000, 250001, 360000, 360001, 410000};
        int[] people = {0, 5, 5, 10, 10, 15, 15, 30, 30, 35, 35};
        int[] sets = {0, 4, 4, 1, 1, 5, 5, 3, 3, 7, 7};
        for (int i = 0; i < n.length; i++) {
            Check.due("quiet(" + n[i] + ")", x.quiet(n[i]), people[i]);
            Check.due("quietly(" + n[i] + ")", x.quietly(n[i]), sets[i]);
        }
        CallForBrown all = Check.told(house(0, 100) + room(7, 100, 1));
        Check.due("quiet(1000000)", all.quiet(1000000), 7);
        all.call(0);
        Check.due("now", all.quiet(1), -1);
        Check.says("35", "NONE: not so much is; -2: there is no such n, no HOUSE.");
        Check.due("quiet(410001)", x.quiet(410001), -1);
        Check.due("quiet(1000000) of less", x.quiet(1000000), -1);
        Check.due("quiet(1000001)", x.quiet(1000001), -2);
        Check.due("quiet(-1)", x.quiet(-1), -2);
        Check.due("quiet(least)", x.quiet(Integer.MIN_VALUE), -2);
        Check.due("quiet(most)", x.quiet(Integer.MAX_VALUE), -2);
        Check.due("quiet(0) without ROOMS", Check.told(EMPTY).quiet(0), 0);
        Check.due("quiet(1) without ROOMS", Check.told(EMPTY).quiet(1), -1);
        Check.due("quiet(0) without a HOUSE", new CallForBrown().quiet(0), -2);
        Check.due("quiet(-1) without a HOUSE", new CallForBrown().quiet(-1), -2);
    }

    private static void quietly() {
        Check.says("36", "Which ROOMS, as bits: the least set by which it is.");
        String like = room(3, 50, 1);
        CallForBrown x = Check.told(house(0, 100) + like + like + like + like);
        Check.due("the least of one", x.quietly(1), 1);
        Check.due("the least of two", x.quietly(125001), 3);
        Check.due("all four", x.quietly(500000), 15);
        CallForBrown free = Check.told(house(0, 100) + room(0, 50, 1) + room(0, 50, 1) + room(0, 99, 2));
        // All disturb nobody: 4 alone finds 495000, 1 and 2 together 250000.
        Check.due("the least of the free", free.quietly(200000), 3);
        Check.due("not the most", free.quietly(495000), 4);
        Check.due("the empty set is least", free.quietly(0), 0);
        CallForBrown two = Check.told(house(0, 100) + room(2, 50, 1) + room(1, 25, 1) + room(1, 25, 1) + room(9, 100, 1));
        // 1 by two people, or 2 and 4 by one each.
        Check.due("of as many people the least set", two.quietly(125000), 1);
        Check.says("36", "NONE, -2 likewise.");
        Check.due("quietly(500001)", x.quietly(500001), -1);
        Check.due("quietly(1000000)", x.quietly(1000000), -1);
        Check.due("quietly(1000001)", x.quietly(1000001), -2);
        Check.due("quietly(-1)", x.quietly(-1), -2);
        Check.due("quietly(0) without ROOMS", Check.told(EMPTY).quietly(0), 0);
        Check.due("quietly(1) without ROOMS", Check.told(EMPTY).quietly(1), -1);
        Check.due("quietly(0) without a HOUSE", new CallForBrown().quietly(0), -2);
        String most = room(999, 100, 1);
        CallForBrown full = Check.told(house(0, 100) + most + most + most + most + most + most + most);
        Check.due("all seven", full.quietly(999999), 127);
        Check.due("their people", full.quiet(999999), 6993);
    }

    private static void card() {
        Check.says("37", "CARD: how much of HIM, not OUT, comes into a ROOM (or is there) within n (0 .. 200) MINUTES "
                + "from now on, no CALLS.");
        CallForBrown x = Check.told(CHAIN);
        Check.due("who is there", x.card(1, 0), 200000);
        Check.due("who comes", x.card(1, 1), 500000);
        CallForBrown fro = Check.told(house(100, 100) + room(1, 100, 1) + room(1, 1, 0) + "door 0 1;");
        Check.due("not yet", fro.card(1, 0), 0);
        Check.due("all", fro.card(1, 1), 1000000);
        Check.due("none twice", fro.card(1, 200), 1000000);
        Check.due("who is there and goes", fro.card(0, 200), 1000000);
        Check.due("nothing is FOUND", fro.found(), 0);
        CallForBrown out = Check.told(house(100, 0) + room(1, 1, 1) + room(1, 1, 1) + "door 0 1;");
        Check.due("OUT does not come", out.card(0, 200), 0);
        x.call(1);
        Check.due("from now on", x.card(0, 1), 210000 + 80000);
        Check.says("37", "-2: there are none such.");
        Check.due("card(0, 201)", x.card(0, 201), -2);
        Check.due("card(0, -1)", x.card(0, -1), -2);
        Check.due("card(-1, 0)", x.card(-1, 0), -2);
        for (int far : FAR) {
            Check.due("card(" + far + ", 0)", x.card(far, 0), -2);
        }
        Check.due("card(0, 0) without ROOMS", Check.told(EMPTY).card(0, 0), -2);
        Check.due("card(0, 0) without a HOUSE", new CallForBrown().card(0, 0), -2);
    }

    private static void desk() {
        Check.says("38", "The ROOM by which that is most, the first of several.");
        CallForBrown x = Check.told(CHAIN);
        Check.due("desk(0)", x.desk(0), 0);
        Check.due("desk(1)", x.desk(1), 1);
        Check.due("desk(200)", x.desk(200), 1);
        CallForBrown like = Check.told(house(0, 100) + room(1, 1, 1) + room(1, 1, 2) + room(1, 1, 2));
        Check.due("two like ones", like.desk(200), 1);
        Check.due("nobody", Check.told(house(0, 0) + room(1, 1, 1) + room(1, 1, 2)).desk(0), 0);
        Check.due("one ROOM", Check.told(house(0, 100) + room(1, 1, 1)).desk(0), 0);
        Check.says("38", "-2: there is no such n, no ROOM.");
        Check.due("desk(-1)", x.desk(-1), -2);
        Check.due("desk(201)", x.desk(201), -2);
        Check.due("desk(least)", x.desk(Integer.MIN_VALUE), -2);
        Check.due("desk(most)", x.desk(Integer.MAX_VALUE), -2);
        Check.due("without ROOMS", Check.told(EMPTY).desk(0), -2);
        Check.due("without a HOUSE", new CallForBrown().desk(0), -2);
    }
}
