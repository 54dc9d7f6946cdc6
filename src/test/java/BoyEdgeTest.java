/** The edges that promises 27 to 31 name, a sentence each. */
public final class BoyEdgeTest {
    /** 0 - 1 - 2, PARTS 400000, 200000, 200000, OUT 200000. */
    private static final String CHAIN = "house moves 50 here 80 worth 100 price 5;room people 10 hears 50 sits 2;"
            + "room people 20 hears 80 sits 1;room people 5 hears 25 sits 1;door 0 1;door 1 2;";
    private static final String EMPTY = "house moves 50 here 80 worth 100 price 5;";
    private static final String STILL = "house moves 0 here 100 worth 1 price 1;";
    private static final int[] FAR = {Integer.MIN_VALUE, -2, -1, 7, 1000002, Integer.MAX_VALUE};

    public static void main(String[] args) {
        best();
        bestOfFive();
        goes();
        goesLeast();
        begins();
        soon();
        soonRefused();
        far();
        Check.finish();
    }

    private static String room(int hears, int sits) {
        return "room people 1 hears " + hears + " sits " + sits + ";";
    }

    private static void best() {
        Check.says("27", "BEST: the most that is FOUND in n (0 .. 5) MINUTES from now on by a BOY who stands in a ROOM.");
        CallForBrown x = Check.told(CHAIN);
        Check.due("best(0, 0)", x.best(0, 0), 0);
        Check.due("best(2, 1)", x.best(2, 1), 160000);
        x.call(0);
        // 200000 are FOUND in 0, 300000 PARTS are in 1 then.
        Check.due("from now on", x.best(2, 1), 240000);
        Check.says("27", "-2: there are none such.");
        String seen = Check.look(x);
        Check.due("best(0, 6)", x.best(0, 6), -2);
        Check.due("best(0, -1)", x.best(0, -1), -2);
        Check.due("best(3, 0)", x.best(3, 0), -2);
        Check.due("best(-1, 0)", x.best(-1, 0), -2);
        for (int far : FAR) {
            Check.due("best(" + far + ", 1)", x.best(far, 1), -2);
            Check.due("best(1, " + far + ")", x.best(1, far), -2);
        }
        Check.stays("best()", x, seen);
        Check.due("without ROOMS", Check.told(EMPTY).best(0, 0), -2);
        Check.due("without a HOUSE", new CallForBrown().best(0, 0), -2);
    }

    /** Five ROOMS in a row, all heard: each MINUTE leads one further. */
    private static void bestOfFive() {
        Check.says("27", "the most that is FOUND in n (0 .. 5) MINUTES");
        CallForBrown x = Check.told(STILL + room(100, 1) + room(100, 1) + room(100, 1) + room(100, 1) + room(100, 1)
                + room(100, 5) + "door 0 1;door 1 2;door 2 3;door 3 4;door 4 5;");
        int[] due = {0, 100000, 200000, 300000, 400000, 900000};
        for (int n = 0; n <= 5; n++) {
            Check.due("best(0, " + n + ")", x.best(0, n), due[n]);
        }
        for (int i = 0; i < 5; i++) {
            Check.due("goes(0, 5, " + i + ")", x.goes(0, 5, i), i + 1);
        }
        Check.due("from 1 all but the first", x.best(1, 5), 900000);
        Check.due("a CALL each MINUTE", x.goes(1, 5, 0), 1);
    }

    private static void goes() {
        Check.says("28", "NONE: there is none such; -2 likewise.");
        CallForBrown x = Check.told(CHAIN);
        for (int n = 0; n <= 5; n++) {
            Check.due("goes(0, " + n + ", n)", x.goes(0, n, n), -1);
            Check.due("goes(0, " + n + ", -1)", x.goes(0, n, -1), -1);
            Check.due("goes(0, " + n + ", most)", x.goes(0, n, Integer.MAX_VALUE), -1);
            Check.due("goes(0, " + n + ", least)", x.goes(0, n, Integer.MIN_VALUE), -1);
            if (n > 0) {
                Check.due("goes(0, " + n + ", the last)", x.goes(0, n, n - 1) >= 0 ? 1 : 0, 1);
            }
        }
        Check.due("goes(3, 1, 0)", x.goes(3, 1, 0), -2);
        Check.due("-2 ahead of NONE, no ROOM", x.goes(3, 1, 1), -2);
        Check.due("-2 ahead of NONE, no n", x.goes(0, 6, 6), -2);
        Check.due("-2 ahead of NONE, n below 0", x.goes(0, -1, -1), -2);
        for (int far : FAR) {
            Check.due("goes(" + far + ", 1, 0)", x.goes(far, 1, 0), -2);
            Check.due("goes(1, " + far + ", 0)", x.goes(1, far, 0), -2);
        }
        Check.due("without ROOMS", Check.told(EMPTY).goes(0, 0, 0), -2);
        Check.due("without a HOUSE", new CallForBrown().goes(0, 0, 0), -2);
    }

    private static void goesLeast() {
        Check.says("28", "The ROOM in which he CALLS in MINUTE i (from 0) of the first such way (the least row of ROOMS).");
        CallForBrown x = Check.told(STILL + room(100, 1) + room(100, 1) + room(100, 1) + "door 0 1;door 1 2;door 0 2;");
        // Two of three ROOMS in two MINUTES: 0 1 is the least row, from wherever.
        for (int from = 0; from < 3; from++) {
            Check.due("goes(" + from + ", 2, 0)", x.goes(from, 2, 0), 0);
            Check.due("goes(" + from + ", 2, 1)", x.goes(from, 2, 1), 1);
        }
        // All three in five MINUTES: 0 0 0 1 2.
        int[] five = {0, 0, 0, 1, 2};
        for (int i = 0; i < 5; i++) {
            Check.due("goes(2, 5, " + i + ")", x.goes(2, 5, i), five[i]);
        }
        CallForBrown deaf = Check.told(STILL + room(0, 1) + room(0, 1) + "door 0 1;");
        for (int i = 0; i < 5; i++) {
            Check.due("nothing can be heard, " + i, deaf.goes(1, 5, i), 0);
        }
        CallForBrown alone = Check.told(STILL + room(0, 1) + room(0, 1));
        Check.due("there is no way to 0", alone.goes(1, 5, 4), 1);
    }

    private static void begins() {
        Check.says("29", "The ROOM from which that is most, the first of several.");
        CallForBrown x = Check.told(STILL + room(10, 1) + room(20, 1) + room(30, 1) + room(30, 1));
        Check.due("begins(0)", x.begins(0), 0);
        Check.due("begins(1)", x.begins(1), 2);
        Check.due("begins(5)", x.begins(5), 2);
        x.tell(3, 1, 31);
        Check.due("the last", x.begins(5), 3);
        x.tell(0, 1, 31);
        Check.due("the first", x.begins(5), 0);
        x.shut(0, 1, 1);
        Check.due("and by a door", x.begins(2), 0);
        CallForBrown single = Check.told(STILL + room(10, 1));
        Check.due("one ROOM", single.begins(5), 0);
        Check.due("one ROOM, no MINUTE", single.begins(0), 0);
        Check.says("29", "-2: there is no such n, no ROOM.");
        Check.due("begins(6)", x.begins(6), -2);
        for (int far : FAR) {
            Check.due("begins(" + far + ")", x.begins(far), -2);
        }
        Check.due("without ROOMS", Check.told(EMPTY).begins(0), -2);
        Check.due("without a HOUSE", new CallForBrown().begins(0), -2);
        Check.due("no such n without ROOMS", Check.told(EMPTY).begins(6), -2);
    }

    private static void soon() {
        Check.says("30", "SOON: the fewest MINUTES (0 .. 5) in which n (0 .. 1,000,000) PARTS at least can be FOUND so.");
        CallForBrown x = Check.told(STILL + room(100, 1) + room(100, 1) + room(100, 1) + room(100, 1) + room(100, 1)
                + room(100, 5) + "door 0 1;door 1 2;door 2 3;door 3 4;door 4 5;");
        int[] most = {0, 100000, 200000, 300000, 400000, 900000};
        for (int n = 0; n <= 5; n++) {
            Check.due("soon(0, " + most[n] + ")", x.soon(0, most[n]), n);
            Check.due("soon(0, " + (most[n] + 1) + ")", x.soon(0, most[n] + 1), n < 5 ? n + 1 : -1);
        }
        Check.due("soon(0, 1)", x.soon(0, 1), 1);
        CallForBrown all = Check.told(STILL + room(100, 1));
        Check.due("a million", all.soon(0, 1000000), 1);
        all.call(0);
        Check.due("a million is FOUND already", all.soon(0, 1), -1);
        Check.due("nothing can be FOUND", all.soon(0, 0), 0);
    }

    private static void soonRefused() {
        Check.says("30", "NONE: in five they can't; -2: there are none such.");
        CallForBrown x = Check.told(CHAIN);
        Check.due("soon(0, 1000000)", x.soon(0, 1000000), -1);
        Check.due("soon(0, 1000001)", x.soon(0, 1000001), -2);
        Check.due("soon(0, -1)", x.soon(0, -1), -2);
        Check.due("soon(3, 0)", x.soon(3, 0), -2);
        for (int far : FAR) {
            Check.due("soon(" + far + ", 0)", x.soon(far, 0), -2);
        }
        Check.due("soon(0, least)", x.soon(0, Integer.MIN_VALUE), -2);
        Check.due("soon(0, most)", x.soon(0, Integer.MAX_VALUE), -2);
        Check.due("without ROOMS", Check.told(EMPTY).soon(0, 0), -2);
        Check.due("without a HOUSE", new CallForBrown().soon(0, 0), -2);
    }

    private static void far() {
        Check.says("31", "The fewest MINUTES by doors from a ROOM to another one (0 to itself).");
        String seven = STILL + room(1, 1) + room(1, 1) + room(1, 1) + room(1, 1) + room(1, 1) + room(1, 1) + room(1, 1);
        CallForBrown x = Check.told(seven + "door 0 1;door 1 2;door 2 3;door 3 4;door 4 5;door 5 6;");
        for (int room = 0; room < 7; room++) {
            for (int other = 0; other < 7; other++) {
                Check.due("far(" + room + ", " + other + ")", x.far(room, other), Math.abs(room - other));
            }
        }
        x.shut(6, 0, 1);
        Check.due("the other way round", x.far(0, 4), 3);
        Check.says("31", "NONE: there is no way; -2: there are none such.");
        CallForBrown apart = Check.told(seven + "door 0 1;");
        Check.due("no way", apart.far(0, 2), -1);
        Check.due("nor back", apart.far(2, 0), -1);
        Check.due("to itself without doors", apart.far(2, 2), 0);
        for (int far : FAR) {
            Check.due("far(" + far + ", 0)", apart.far(far, 0), -2);
            Check.due("far(0, " + far + ")", apart.far(0, far), -2);
            Check.due("far(" + far + ", itself)", apart.far(far, far), -2);
        }
        CallForBrown three = Check.told(CHAIN);
        Check.due("far(3, 0)", three.far(3, 0), -2);
        Check.due("far(0, 3)", three.far(0, 3), -2);
        Check.due("without ROOMS", Check.told(EMPTY).far(0, 0), -2);
        Check.due("without a HOUSE", new CallForBrown().far(0, 0), -2);
    }
}
