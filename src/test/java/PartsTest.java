/** Promises 10 to 18 and 33 to 38: where HE is by chances, MINUTES, trumpets, calls at once, cards. */
public final class PartsTest {
    /** 0 - 1 - 2, PARTS 400000, 200000, 200000, OUT 200000. */
    private static final String CHAIN = "house moves 50 here 80 worth 100 price 5;room people 10 hears 50 sits 2;"
            + "room people 20 hears 80 sits 1;room people 5 hears 25 sits 1;door 0 1;door 1 2;";
    private static final String EMPTY = "house moves 50 here 80 worth 100 price 5;";

    public static void main(String[] args) {
        atFirst();
        minutes();
        takenBack();
        sixty();
        later();
        noRooms();
        allFound();
        rest();
        atOnce();
        cards();
        wrongInputs();
        Check.finish();
    }

    private static void parts(CallForBrown x, String when, int... due) {
        for (int room = 0; room < due.length - 1; room++) {
            Check.due(when + " parts(" + room + ")", x.parts(room), due[room]);
        }
        Check.due(when + " parts(NONE)", x.parts(-1), due[due.length - 1]);
    }

    private static void atFirst() {
        CallForBrown x = Check.told(CHAIN);
        parts(x, "at first", 400000, 200000, 200000, 200000);
        Check.due("found()", x.found(), 0);
        Check.due("likely()", x.likely(), 0);
        Check.due("here()", x.here(), 800000);
        Check.due("chance(0)", x.chance(0), 400000);
        Check.due("chance(NONE)", x.chance(-1), 200000);
        parts(Check.told("house moves 1 here 100 worth 1 price 1;room people 0 hears 0 sits 1;"
                + "room people 0 hears 0 sits 1;room people 0 hears 0 sits 1;"), "thirds", 333333, 333333, 333333, 1);
        parts(Check.told("house moves 1 here 100 worth 1 price 1;room people 0 hears 0 sits 0;"
                + "room people 0 hears 0 sits 0;"), "no seats", 0, 0, 1000000);
        parts(Check.told("house moves 1 here 0 worth 1 price 1;room people 0 hears 0 sits 9;"), "not here", 0, 1000000);
    }

    private static void minutes() {
        CallForBrown x = Check.told(CHAIN);
        Check.due("call(NONE)", x.call(-1), 0);
        parts(x, "behind a minute", 250000, 400000, 150000, 200000);
        Check.due("likely()", x.likely(), 1);
        x.anew();
        Check.due("call(1)", x.call(1), 160000);
        parts(x, "behind a call", 210000, 320000, 110000, 200000);
        Check.due("found()", x.found(), 160000);
        Check.due("here()", x.here(), 761904);
        Check.due("chance(1)", x.chance(1), 380952);
        Check.due("chance(NONE)", x.chance(-1), 238095);
        Check.due("call(0)", x.call(0), 105000);
        parts(x, "behind two calls", 132500, 267500, 135000, 200000);
        Check.due("found()", x.found(), 265000);
        cutOff();
    }

    /** Of 7 PARTS by moves 50 three leave, by two doors one each: the third stays. */
    private static void cutOff() {
        CallForBrown x = Check.told("house moves 50 here 1 worth 1 price 1;room people 0 hears 99 sits 1;"
                + "room people 0 hears 0 sits 0;room people 0 hears 0 sits 0;door 0 1;door 0 2;");
        x.call(0);
        parts(x, "cut", 50, 25, 25, 990000);
        x.call(0);
        // 49 of 50 are found; of the last no half leaves, of 25 twelve come from each.
        parts(x, "cut again", 1 + 24, 13, 13, 990000);
        x.call(-1);
        // 25: 12 leave, 6 by each door; 13: 6 come from each.
        parts(x, "cut thrice", 25 - 12 + 12, 13 - 6 + 6, 13 - 6 + 6, 990000);
        CallForBrown odd = Check.told("house moves 70 here 1 worth 1 price 1;room people 0 hears 0 sits 1;"
                + "room people 0 hears 0 sits 2;room people 0 hears 0 sits 0;room people 0 hears 0 sits 0;"
                + "door 0 1;door 0 2;door 0 3;");
        parts(odd, "odd", 3333, 6666, 0, 0, 990001);
        odd.call(-1);
        // 3333: 2333 leave, 777 by each of three; 6666: 4666 leave.
        parts(odd, "odd later", 3333 - 3 * 777 + 4666, 6666 - 4666 + 777, 777, 777, 990001);
        CallForBrown one = Check.told("house moves 1 here 1 worth 1 price 1;room people 0 hears 0 sits 1;"
                + "room people 0 hears 0 sits 99;room people 0 hears 0 sits 0;door 0 2;");
        one.call(-1);
        parts(one, "one part goes", 99, 9900, 1, 990000);
    }

    private static void takenBack() {
        CallForBrown x = Check.told(CHAIN);
        Check.due("undo() of none", x.undo(), -5);
        Check.due("anew() of none", x.anew(), 0);
        x.call(1);
        x.call(0);
        x.call(2);
        Check.due("count(6)", x.count(6), 3);
        Check.due("undo()", x.undo(), 2);
        parts(x, "undone", 132500, 267500, 135000, 200000);
        Check.due("found() undone", x.found(), 265000);
        Check.due("undo()", x.undo(), 1);
        parts(x, "undone twice", 210000, 320000, 110000, 200000);
        x.call(0);
        Check.due("anew()", x.anew(), 2);
        parts(x, "anew", 400000, 200000, 200000, 200000);
        Check.due("found() anew", x.found(), 0);
        Check.due("count(6) anew", x.count(6), 0);
    }

    private static void sixty() {
        CallForBrown x = Check.told(CHAIN);
        for (int i = 0; i < 60; i++) {
            Check.due("call " + i, x.call(-1), 0);
        }
        Check.due("the 61st", x.call(0), -5);
        Check.due("-2 ahead of -5", x.call(3), -2);
        Check.due("count(6)", x.count(6), 60);
        Check.due("undo()", x.undo(), 59);
        Check.due("call(NONE)", x.call(-1), 0);
        Check.due("anew()", x.anew(), 60);
    }

    private static void later() {
        CallForBrown x = Check.told(CHAIN);
        Check.due("later(0, 0)", x.later(0, 0), 400000);
        Check.due("later(1, 1)", x.later(1, 1), 400000);
        Check.due("later(NONE, 200)", x.later(-1, 200), 200000);
        Check.due("later(0, 200)", x.later(0, 200) + x.later(1, 200) + x.later(2, 200), 800000);
        x.call(1);
        x.call(0);
        x.call(-1);
        int due = x.parts(0);
        x.undo();
        Check.due("later(0, 1) behind calls", x.later(0, 1), due);
        parts(x, "nothing happened", 132500, 267500, 135000, 200000);
    }

    private static void noRooms() {
        CallForBrown x = Check.told(EMPTY);
        Check.due("parts(NONE)", x.parts(-1), 1000000);
        Check.due("parts(0)", x.parts(0), -2);
        Check.due("likely()", x.likely(), -1);
        Check.due("here()", x.here(), 0);
        Check.due("chance(NONE)", x.chance(-1), 1000000);
        Check.due("call(NONE)", x.call(-1), 0);
        Check.due("rest()", x.rest(), 0);
        Check.due("trumpet()", x.trumpet(), 0);
        Check.due("quiet(0)", x.quiet(0), 0);
        Check.due("quietly(0)", x.quietly(0), 0);
        Check.due("quiet(1)", x.quiet(1), -1);
        Check.due("desk(0)", x.desk(0), -2);
        Check.due("later(NONE, 3)", x.later(-1, 3), 1000000);
    }

    private static void allFound() {
        CallForBrown x = Check.told("house moves 0 here 100 worth 1 price 1;room people 0 hears 100 sits 5;");
        Check.due("call(0)", x.call(0), 1000000);
        Check.due("found()", x.found(), 1000000);
        Check.due("here()", x.here(), 0);
        Check.due("chance(0)", x.chance(0), 0);
        Check.due("chance(NONE)", x.chance(-1), 0);
        Check.due("likely()", x.likely(), 0);
        CallForBrown thirds = Check.told("house moves 0 here 100 worth 1 price 1;room people 0 hears 100 sits 1;"
                + "room people 0 hears 100 sits 1;room people 0 hears 100 sits 1;");
        Check.due("the first of several", thirds.likely(), 0);
        thirds.call(0);
        Check.due("the first of two", thirds.likely(), 1);
        thirds.call(1);
        thirds.call(2);
        Check.due("all but one", thirds.found(), 999999);
        Check.due("he is out then", thirds.chance(-1), 1000000);
        Check.due("not here", thirds.here(), 0);
    }

    private static void rest() {
        Check.due("no doors", Check.told("house moves 50 here 80 worth 1 price 1;room people 0 hears 0 sits 5;").rest(), 0);
        String pair = " here 100 worth 1 price 1;room people 0 hears 0 sits 1;room people 0 hears 0 sits 0;door 0 1;";
        Check.due("nobody moves", Check.told("house moves 0" + pair).rest(), 0);
        Check.due("all go to and fro", Check.told("house moves 100" + pair).rest(), -1);
        Check.due("halves", Check.told("house moves 50" + pair).rest(), 1);
        CallForBrown x = Check.told("house moves 30" + pair);
        int rest = x.rest();
        Check.due("rest() is behind 1", rest > 1 ? 1 : 0, 1);
        Check.due("it rests then", x.later(0, rest), x.later(0, rest + 1));
        Check.due("not ahead", x.later(0, rest) != x.later(0, rest - 1) ? 1 : 0, 1);
        // One in a hundred goes: behind 200 minutes the one ROOM still has more to give than the other.
        CallForBrown slow = Check.told("house moves 1" + pair);
        Check.due("slow", slow.rest(), -1);
        CallForBrown last = Check.told("house moves 2 here 5 worth 1 price 1;room people 0 hears 0 sits 1;"
                + "room people 0 hears 0 sits 0;door 0 1;");
        Check.due("200 minutes are asked", last.rest(), 200);
        last.call(-1);
        Check.due("199 from then on", last.rest(), 199);
    }

    private static void atOnce() {
        CallForBrown x = Check.told(CHAIN);
        Check.due("trumpet()", x.trumpet(), 200000 + 160000 + 50000);
        Check.due("quiet(0)", x.quiet(0), 0);
        Check.due("quietly(0)", x.quietly(0), 0);
        Check.due("quiet(1)", x.quiet(1), 5);
        Check.due("quietly(1)", x.quietly(1), 4);
        Check.due("quiet(50001)", x.quiet(50001), 10);
        Check.due("quietly(200000)", x.quietly(200000), 1);
        Check.due("quiet(200001)", x.quiet(200001), 15);
        Check.due("quietly(250000)", x.quietly(250000), 5);
        Check.due("quiet(250001)", x.quiet(250001), 30);
        Check.due("quietly(360000)", x.quietly(360000), 3);
        Check.due("quiet(410000)", x.quiet(410000), 35);
        Check.due("quietly(410000)", x.quietly(410000), 7);
        Check.due("quiet(410001)", x.quiet(410001), -1);
        Check.due("quietly(410001)", x.quietly(410001), -1);
        Check.due("found() stays", x.found(), 0);
        x.tell(2, 0, 0);
        Check.due("the least set of like ones", x.quietly(200000), 1);
        Check.due("the empty set", x.quietly(0), 0);
        x.tell(0, 0, 0);
        x.tell(1, 0, 0);
        Check.due("least by bits", x.quietly(160001), 1);
        Check.due("least by bits of two", x.quietly(210000), 3);
        x.call(0);
        Check.due("trumpet() now", x.trumpet(), x.parts(0) / 2 + x.parts(1) * 80 / 100 + x.parts(2) / 4);
    }

    private static void cards() {
        CallForBrown x = Check.told(CHAIN);
        Check.due("card(0, 0)", x.card(0, 0), 400000);
        Check.due("card(0, 1)", x.card(0, 1), 450000);
        // Kept in 0: 1 has 200000 - 100000 + 100000, 2 has 200000 - 100000 + 50000.
        Check.due("card(0, 2)", x.card(0, 2), 500000);
        Check.due("card(1, 0)", x.card(1, 0), 200000);
        Check.due("card(1, 1)", x.card(1, 1), 500000);
        Check.due("card(1, 2)", x.card(1, 2), 650000);
        Check.due("card(2, 1)", x.card(2, 1), 250000);
        Check.due("desk(0)", x.desk(0), 0);
        Check.due("desk(1)", x.desk(1), 1);
        Check.due("desk(200)", x.desk(200), 1);
        Check.due("parts stay", x.parts(1), 200000);
        CallForBrown like = Check.told("house moves 50 here 80 worth 1 price 1;room people 0 hears 0 sits 1;"
                + "room people 0 hears 0 sits 1;door 0 1;");
        Check.due("the first of several", like.desk(9), 0);
        like.call(-1);
        Check.due("card(0, 1) of halves", like.card(0, 1), 600000);
        // Behind 200 minutes what is left in 1 is less than two, of which no half goes.
        Check.due("card(0, 200)", like.card(0, 200), 799999);
        CallForBrown nobody = Check.told("house moves 50 here 0 worth 1 price 1;room people 0 hears 0 sits 1;"
                + "room people 0 hears 0 sits 1;door 0 1;");
        Check.due("desk of nobody", nobody.desk(3), 0);
        CallForBrown single = Check.told("house moves 50 here 50 worth 1 price 1;room people 0 hears 0 sits 1;");
        Check.due("desk of one room", single.desk(200), 0);
        Check.due("card of one room", single.card(0, 200), 500000);
    }

    private static void wrongInputs() {
        CallForBrown x = Check.told(CHAIN);
        CallForBrown none = new CallForBrown();
        Check.due("parts(3)", x.parts(3), -2);
        Check.due("parts(-2)", x.parts(-2), -2);
        Check.due("chance(3)", x.chance(3), -2);
        Check.due("chance(-2)", x.chance(-2), -2);
        Check.due("call(3)", x.call(3), -2);
        Check.due("call(-2)", x.call(-2), -2);
        Check.due("no call came", x.count(6), 0);
        Check.due("later(3, 0)", x.later(3, 0), -2);
        Check.due("later(0, -1)", x.later(0, -1), -2);
        Check.due("later(0, 201)", x.later(0, 201), -2);
        Check.due("quiet(-1)", x.quiet(-1), -2);
        Check.due("quiet(1000001)", x.quiet(1000001), -2);
        Check.due("quietly(-1)", x.quietly(-1), -2);
        Check.due("quietly(1000001)", x.quietly(1000001), -2);
        Check.due("quietly(1000000)", x.quietly(1000000), -1);
        Check.due("card(-1, 0)", x.card(-1, 0), -2);
        Check.due("card(3, 0)", x.card(3, 0), -2);
        Check.due("card(0, -1)", x.card(0, -1), -2);
        Check.due("card(0, 201)", x.card(0, 201), -2);
        Check.due("desk(-1)", x.desk(-1), -2);
        Check.due("desk(201)", x.desk(201), -2);
        Check.due("no house parts", none.parts(-1), -2);
        Check.due("no house likely", none.likely(), -2);
        Check.due("no house here", none.here(), -2);
        Check.due("no house chance", none.chance(-1), -2);
        Check.due("no house call", none.call(-1), -2);
        Check.due("no house undo", none.undo(), -2);
        Check.due("no house anew", none.anew(), -2);
        Check.due("no house later", none.later(-1, 0), -2);
        Check.due("no house rest", none.rest(), -2);
        Check.due("no house trumpet", none.trumpet(), -2);
        Check.due("no house quiet", none.quiet(0), -2);
        Check.due("no house quietly", none.quietly(0), -2);
    }
}
