/** The edges that the terms I to VI name, a sentence each. */
public final class TermsEdgeTest {
    private static final String FIRST = "house moves 50 here 80 worth 100 price 5;";
    private static final String ROOM = "room people 10 hears 50 sits 2;";
    private static final String MAN = "man weighs 3;";
    private static final String SEVEN = FIRST + ROOM + ROOM + ROOM + ROOM + ROOM + ROOM + ROOM;
    private static final String SIX = FIRST + MAN + MAN + MAN + MAN + MAN + MAN;

    public static void main(String[] args) {
        lines();
        firstLine();
        rooms();
        doors();
        men();
        slates();
        numbered();
        tokens();
        eachByte();
        faultPlaces();
        faultKinds();
        leastOfOnePlace();
        tooMany();
        slotsAndRows();
        refusals();
        partsAtFirst();
        minute();
        calls();
        rounds();
        pence();
        boys();
        gains();
        chase();
        menOfSets();
        readAs();
        fractions();
        draws();
        evening();
        eveningMinutes();
        Check.finish();
    }

    private static void reads(String text, int lines) {
        CallForBrown x = new CallForBrown();
        Check.due("house() of " + text, Check.tell(x, text), lines);
        Check.due("fault(0) of " + text, x.fault(0), 0);
        Check.due("fault(1) of " + text, x.fault(1), -1);
        Check.due("count(4) of " + text, x.count(4), lines);
        Check.due("count(5) of " + text, x.count(5), 0);
    }

    /** The FAULT stands behind ahead, and nothing of the HOUSE that was there goes. */
    private static void fails(String ahead, String bad, int fault) {
        CallForBrown x = Check.told(FIRST + ROOM + ROOM + MAN);
        x.call(1);
        Check.put(x, ahead + bad);
        Check.due("house() of " + ahead + bad, x.house(), -4);
        Check.due("fault(0) of " + ahead + bad, x.fault(0), fault);
        Check.due("fault(1) of " + ahead + bad, x.fault(1), ahead.length());
        Check.due("count(5) of " + ahead + bad, x.count(5), ahead.length() + bad.length());
        Check.due("count(4) stays of " + ahead + bad, x.count(4), 4);
        Check.due("found() stays of " + ahead + bad, x.found(), 200000);
    }

    // I.

    private static void lines() {
        Check.says("I", "HOUSE: {LINE ;}.");
        reads("", 0);
        reads("\n", 0);
        reads(FIRST, 1);
        reads(FIRST + ROOM, 2);
        fails("house moves 50 here 80 worth 100 price 5", "", 1);
        fails(FIRST + "room people 10 hears 50 sits 2", "", 1);
        fails(FIRST + "room people 10 hears 50 sits 2 ", "room people 10 hears 50 sits 2;", 1);
        fails(FIRST, ";", 1);
        fails("", ";", 1);
    }

    private static void firstLine() {
        Check.says("I", "house is the first LINE and no other");
        fails("", ROOM, 1);
        fails("", "door 0 1;", 1);
        fails("", MAN, 1);
        fails("", "slate 0 as 0 1;", 1);
        fails(FIRST, FIRST, 1);
        fails(FIRST + ROOM, FIRST, 1);
        Check.says("I", "moves, here 0 .. 100");
        reads("house moves 0 here 0 worth 1 price 1;", 1);
        reads("house moves 100 here 100 worth 1 price 1;", 1);
        fails("house moves ", "101 here 1 worth 1 price 1;", 2);
        fails("house moves 1 here ", "101 worth 1 price 1;", 2);
        fails("house moves ", "-1 here 1 worth 1 price 1;", 1);
        Check.says("I", "worth, price 0 .. 999");
        reads("house moves 1 here 1 worth 0 price 0;", 1);
        reads("house moves 1 here 1 worth 999 price 999;", 1);
        fails("house moves 1 here 1 worth ", "1000 price 1;", 2);
        fails("house moves 1 here 1 worth 1 price ", "1000;", 2);
    }

    private static void rooms() {
        Check.says("I", "room: people 0 .. 999, hears 0 .. 100, sits 0 .. 99.");
        reads(FIRST + "room people 0 hears 0 sits 0;", 2);
        reads(FIRST + "room people 999 hears 100 sits 99;", 2);
        fails(FIRST + "room people ", "1000 hears 1 sits 1;", 2);
        fails(FIRST + "room people 1 hears ", "101 sits 1;", 2);
        fails(FIRST + "room people 1 hears 1 sits ", "100;", 2);
        CallForBrown x = Check.told(FIRST + "room people 999 hears 100 sits 99;room people 0 hears 0 sits 0;");
        int[][] due = {{999, 100, 99}, {0, 0, 0}};
        for (int room = 0; room < 2; room++) {
            for (int what = 0; what < 3; what++) {
                Check.due("room(" + room + ", " + what + ")", x.room(room, what), due[room][what]);
            }
        }
    }

    private static void doors() {
        Check.says("I", "door: two ROOMS told ahead, unlike ones (like ones count once).");
        reads(FIRST + ROOM + ROOM + "door 0 1;", 4);
        reads(FIRST + ROOM + ROOM + "door 1 0;", 4);
        fails(FIRST + "door ", "0 0;", 2);
        fails(FIRST + ROOM + "door 0 ", "0;", 2);
        fails(FIRST + ROOM + "door 0 ", "1;" + ROOM, 2);
        fails(FIRST + ROOM + "door ", "1 0;" + ROOM, 2);
        fails(FIRST + ROOM + ROOM + "door 1 ", "1;", 2);
        reads(SEVEN + "door 5 6;door 6 0;", 10);
        fails(SEVEN + "door 6 ", "7;", 2);
        fails(SEVEN + "door 0 ", "4294967297;", 2);
        CallForBrown x = Check.told(FIRST + ROOM + ROOM + "door 0 1;door 1 0;door 0 1;");
        Check.due("like doors", x.count(1), 1);
        Check.due("like doors are LINES", x.count(4), 6);
        Check.due("doors of 0", x.room(0, 3), 2);
        // Of 400000 PARTS the half leaves by one door, not by three.
        Check.due("like doors lead once", x.later(1, 1), 400000);
    }

    private static void men() {
        Check.says("I", "man: weighs 1 .. 99");
        reads(FIRST + "man weighs 1;man weighs 99;", 3);
        fails(FIRST + "man weighs ", "0;", 2);
        fails(FIRST + "man weighs ", "00;", 2);
        fails(FIRST + "man weighs ", "100;", 2);
        Check.says("I", "Q a QUESTION 0 .. 5 to which he says yes (like ones count once).");
        reads(FIRST + "man weighs 1 yes 0;", 2);
        reads(FIRST + "man weighs 1 yes 5 4 3 2 1 0;", 2);
        fails(FIRST + "man weighs 1 yes ", "6;", 2);
        fails(FIRST + "man weighs 1 yes 5 ", "6;", 2);
        fails(FIRST + "man weighs 1 yes", ";", 1);
        CallForBrown x = Check.told(FIRST + "man weighs 1 yes 5 5 0 5 0;man weighs 1 yes 0 1 2 3 4 5;man weighs 1;");
        Check.due("like QUESTIONS", x.man(0, 1), 33);
        Check.due("all QUESTIONS", x.man(1, 1), 63);
        Check.due("no QUESTION", x.man(2, 1), 0);
    }

    private static void slates() {
        Check.says("I", "slate: MEN told ahead: what is meant, what is read, 0 .. 9 (a later one of both strikes).");
        reads(FIRST + MAN + "slate 0 as 0 0;slate 0 as 0 9;", 4);
        fails(FIRST + "slate ", "0 as 0 1;" + MAN, 2);
        fails(FIRST + MAN + "slate ", "1 as 0 1;" + MAN, 2);
        fails(FIRST + MAN + "slate 0 as ", "1 1;" + MAN, 2);
        fails(FIRST + MAN + "slate 0 as 0 ", "10;", 2);
        reads(SIX + "slate 5 as 5 9;", 8);
        fails(SIX + "slate 5 as ", "6 1;", 2);
        fails(SIX + "slate ", "6 as 5 1;", 2);
        CallForBrown x = Check.told(FIRST + MAN + MAN + "slate 0 as 1 9;slate 1 as 0 4;slate 0 as 1 2;slate 1 as 1 0;");
        Check.due("the later one", x.slate(0, 1), 2);
        Check.due("the other way stays", x.slate(1, 0), 4);
        Check.due("himself, told as 0", x.slate(1, 1), 0);
        Check.due("himself, not told", x.slate(0, 0), 1);
    }

    private static void numbered() {
        Check.says("I", "ROOMS 0 .. 6, MEN 0 .. 5 are numbered as they stand.");
        StringBuilder text = new StringBuilder(FIRST);
        for (int i = 0; i < 7; i++) {
            text.append("room people ").append(100 + i).append(" hears 1 sits 1;");
            text.append(i < 6 ? "man weighs " + (10 + i) + ";" : "");
        }
        CallForBrown x = Check.told(text.toString());
        for (int i = 0; i < 7; i++) {
            Check.due("people of " + i, x.room(i, 0), 100 + i);
            Check.due("man " + i, x.man(i, 0), i < 6 ? 10 + i : -2);
        }
        Check.due("room(7, 0)", x.room(7, 0), -2);
    }

    private static void tokens() {
        Check.says("I", "TOKENS, blanks (32, 10) aside, the longest: words (a .. z), numbers (digits), the sign ; .");
        reads("house moves50here80worth100price5;room people1hears2sits3;", 2);
        reads("\n\n  house\nmoves\n50 here 80 worth 100 price 5 ; \n", 1);
        reads("house moves 0000000000000000000000000000000000000100 here 00 worth 1 price 1;", 1);
        fails("", "housemoves 50", 1);
        fails("", "mouse moves 50", 1);
        fails("house ", "loves 50", 1);
        fails("house moves 50 ", "mere 80", 1);
        fails("house moves 50 here 80 ", "wortn 100", 1);
        fails("", "hous emoves 50", 1);
        fails("house moves 5 ", "0 here 80 worth 100 price 5;", 1);
        fails("house moves 50 here 80 worth 100 price ", "5000;", 2);
        fails(FIRST + "door ", "00000000001 0;", 2);
        fails("house moves ", "18446744073709551616 here 1 worth 1 price 1;", 2);
    }

    /** Each byte between a word and a number. */
    private static void eachByte() {
        Check.says("I", "1 a TOKEN that is none");
        for (int sign = 0; sign <= 255; sign++) {
            String ahead = "house moves";
            String behind = "50 here 80 worth 100 price 5;";
            if (sign == 32 || sign == 10 || sign == '0') {
                reads(ahead + (char) sign + behind, 1);
            } else if (sign >= '1' && sign <= '9') {
                fails(ahead, (char) sign + behind, 2);
            } else if (sign >= 'a' && sign <= 'z') {
                fails("house ", "moves" + (char) sign + behind, 1);
            } else {
                fails(ahead, (char) sign + behind, 1);
            }
        }
        fails(FIRST, "\u00ff", 1);
        fails(FIRST + ROOM, "\0", 1);
    }

    private static void faultPlaces() {
        Check.says("I", "FAULTS, the first by its place (a TOKEN's first byte; the end's)");
        fails("house moves ", "101 here 101 worth ? price 5;", 2);
        fails("house moves ", "? here 101 worth 1000 price 5;", 1);
        fails(SEVEN + "door 0 ", "7;" + ROOM, 2);
        fails(SEVEN, ROOM + "door 0 7;?", 3);
        fails("house moves 1 ", "?", 1);
        fails("house", "", 1);
        fails("house moves 1 here 1 worth 1 price 1 \n  \n", "", 1);
        StringBuilder full = new StringBuilder(FIRST);
        while (full.length() < 897) {
            full.append(' ');
        }
        reads(full + "   ", 1);
        fails(full + "man", "", 1);
        fails(full + "  ", "?", 1);
        fails(full.toString(), "?? ", 1);
    }

    private static void faultKinds() {
        Check.says("I", "or can't stand there (house behind the first LINE, another word ahead of it)");
        fails(FIRST, "house", 1);
        fails("\n ", "man weighs 1;" + FIRST, 1);
        fails(FIRST, "yes 1;", 1);
        fails("house ", "here 1;", 1);
        fails("house moves ", "moves 1;", 1);
        fails(FIRST + " ", ";", 1);
        fails(FIRST + ROOM + ROOM + "door 0", ";", 1);
        fails(FIRST + ROOM + ROOM + "door 0 1 ", "1;", 1);
        fails(FIRST + MAN + "slate 0 ", "0 1;", 1);
        fails(FIRST + "man weighs 1 ", "1;", 1);
        Check.says("I", "2 a number out of its bounds, not as said");
        fails(FIRST + ROOM + ROOM + "door 0 ", "0;", 2);
        fails(FIRST + ROOM + ROOM + "door ", "2 2;", 2);
        fails(FIRST + MAN + "slate 0 as 0 ", "99999999999999999999;", 2);
    }

    private static void leastOfOnePlace() {
        Check.says("I", "of one place the least");
        fails("house ", "1000;", 1);
        fails("", "1000;", 1);
        fails(FIRST + "room ", "1000;", 1);
        fails(FIRST + "man weighs 1 yes 0;man ", "0;", 1);
        fails(FIRST + "room people 1 hears 1 sits 1 ", "100;", 1);
        fails(FIRST + MAN + "slate 0 as 0 1 ", "10;", 1);
        String open = SEVEN.substring(0, SEVEN.length() - 1);
        fails(open + " ", ROOM, 1);
        String last = SIX.substring(0, SIX.length() - 1);
        fails(last + " ", MAN, 1);
    }

    private static void tooMany() {
        Check.says("I", "3 an 8th room, 7th man, at its word.");
        reads(SEVEN, 8);
        fails(SEVEN, ROOM, 3);
        fails(SEVEN + " \n", "room", 3);
        fails(SEVEN, "room people 1000 hears 101 sits 100;", 3);
        fails(SEVEN, "room;", 3);
        fails(SEVEN, "rooms;", 1);
        reads(SIX, 7);
        fails(SIX, MAN, 3);
        fails(SIX, "man?", 3);
        fails(SIX, "man weighs 0;", 3);
        reads(SIX + SEVEN.substring(FIRST.length()), 14);
        fails(SIX + SEVEN.substring(FIRST.length()), MAN, 3);
        fails(SIX + SEVEN.substring(FIRST.length()), ROOM, 3);
    }

    private static void slotsAndRows() {
        Check.says("I", "SLOTS 0 .. 3 have rows of numbers of 1, 2, 4 or 8 bytes (WIDTH 0 .. 3), at most 60, or nothing.");
        CallForBrown x = Check.told(FIRST + ROOM);
        int[] bits = {8, 16, 32, 64};
        for (int slot = 0; slot <= 3; slot++) {
            Check.due("nothing in " + slot, x.round(slot), -6);
            Check.due("row(" + slot + ", " + slot + ", 60)", x.row(slot, slot, 60), 0);
            Check.due("row(" + slot + ", " + slot + ", 61)", x.row(slot, slot, 61), -2);
            Check.due("the last of 60", x.write(slot, 59, 0), 0);
            Check.due("behind the last", x.write(slot, 60, 0), -7);
            x.write(slot, 0, 1L << bits[slot] - 1);
            Check.due("the highest bit in " + slot, x.habit(slot), -2);
            x.write(slot, 0, slot == 3 ? 0 : 1L << bits[slot]);
            Check.due("one bit more in " + slot, x.habit(slot), 0);
        }
        Check.due("row(4, 0, 1)", x.row(4, 0, 1), -2);
        Check.due("row(-1, 0, 1)", x.row(-1, 0, 1), -2);
    }

    private static void refusals() {
        Check.says("I", "-2 is asked ahead of -5.");
        CallForBrown x = Check.told(FIRST + ROOM + ROOM);
        for (int i = 0; i < 60; i++) {
            x.call(-1);
        }
        Check.due("call(2) behind 60", x.call(2), -2);
        Check.due("call(-2) behind 60", x.call(-2), -2);
        Check.due("call(1) behind 60", x.call(1), -5);
        Check.due("tell(2, 0, 0)", x.tell(2, 0, 0), -2);
        Check.due("tell(0, 0, 1000)", x.tell(0, 0, 1000), -2);
        Check.due("tell(0, 0, 999)", x.tell(0, 0, 999), -5);
        Check.due("shut(0, 2, 1)", x.shut(0, 2, 1), -2);
        Check.due("shut(0, 0, 1)", x.shut(0, 0, 1), -2);
        Check.due("shut(0, 1, 2)", x.shut(0, 1, 2), -2);
        Check.due("shut(0, 1, 1)", x.shut(0, 1, 1), -5);
        CallForBrown none = new CallForBrown();
        Check.due("undo() without a HOUSE", none.undo(), -2);
    }

    // II.

    private static void parts(CallForBrown x, int... due) {
        for (int room = 0; room < due.length - 1; room++) {
            Check.due("parts(" + room + ")", x.parts(room), due[room]);
        }
        Check.due("parts(NONE)", x.parts(-1), due[due.length - 1]);
    }

    private static String seat(int hears, int sits) {
        return "room people 0 hears " + hears + " sits " + sits + ";";
    }

    private static String house(int moves, int here, int worth, int price) {
        return "house moves " + moves + " here " + here + " worth " + worth + " price " + price + ";";
    }

    private static void partsAtFirst() {
        Check.says("II", "HE is in a ROOM by here times 10,000 times its sits by all sits, cut (0, if all are 0).");
        parts(Check.told(house(0, 100, 1, 1) + seat(1, 0) + seat(1, 0)), 0, 0, 1000000);
        parts(Check.told(house(0, 100, 1, 1) + seat(1, 0) + seat(1, 1)), 0, 1000000, 0);
        parts(Check.told(house(0, 100, 1, 1) + seat(1, 99)), 1000000, 0);
        parts(Check.told(house(0, 0, 1, 1) + seat(1, 99)), 0, 1000000);
        parts(Check.told(house(0, 1, 1, 1) + seat(1, 99) + seat(1, 1)), 9900, 100, 990000);
        Check.says("II", "OUT: what is left of a million.");
        parts(Check.told(house(0, 100, 1, 1) + seat(1, 1) + seat(1, 1) + seat(1, 1)), 333333, 333333, 333333, 1);
        String all = seat(1, 99);
        parts(Check.told(house(0, 100, 1, 1) + all + all + all + all + all + all + all),
                142857, 142857, 142857, 142857, 142857, 142857, 142857, 1);
        parts(Check.told(house(0, 100, 1, 1)), 1000000);
    }

    private static void minute() {
        Check.says("II", "of the PARTS of each ROOM with doors moves in a hundred, cut, leave it, as many (cut) by each door");
        String star = seat(0, 1) + seat(0, 0) + seat(0, 0) + seat(0, 0) + "door 0 1;door 0 2;door 0 3;";
        later(house(100, 100, 1, 1) + star, 1, 333333, 333333, 333333, 0);
        later(house(0, 100, 1, 1) + star, 1000000, 0, 0, 0, 0);
        later(house(100, 100, 1, 1) + seat(0, 1) + seat(0, 0), 1000000, 0, 0);
        later(house(50, 100, 1, 1) + seat(0, 1) + seat(0, 1) + "door 0 1;", 500000, 500000, 0);
        Check.says("II", "what is cut off stays. (OUT stays.)");
        // 10101 and 989899 PARTS: 1 in a hundred of 10101 is 101, by two doors 50 each.
        later(house(1, 100, 1, 1) + seat(0, 1) + seat(0, 98) + seat(0, 0) + seat(0, 0) + "door 0 2;door 0 3;",
                10101 - 100, 989898, 50, 50, 1);
        later(house(100, 1, 1, 1) + seat(0, 1) + seat(0, 0) + "door 0 1;", 0, 10000, 990000);
        // Of 100 PARTS one leaves by one door, none by two.
        String few = house(1, 1, 1, 1) + seat(0, 1) + seat(0, 99) + seat(0, 0) + seat(0, 0);
        later(few + "door 0 2;", 99, 9900, 1, 0, 990000);
        later(few + "door 0 2;door 0 3;", 100, 9900, 0, 0, 990000);
    }

    private static void later(String text, int... due) {
        CallForBrown x = Check.told(text);
        x.call(-1);
        parts(x, due);
    }

    private static void calls() {
        Check.says("II", "hears in a hundred of its PARTS, cut, are FOUND, and in no ROOM any more.");
        called(0, 0, 333333);
        called(1, 3333, 330000);
        called(50, 166666, 166667);
        called(99, 329999, 3334);
        called(100, 333333, 0);
        CallForBrown x = Check.told(house(0, 1, 1, 1) + seat(99, 1));
        // 10000, 100, 1 PARTS: of the last one nothing is heard.
        Check.due("call(0)", x.call(0), 9900);
        Check.due("call(0)", x.call(0), 99);
        Check.due("call(0)", x.call(0), 0);
        parts(x, 1, 990000);
    }

    private static void called(int hears, int found, int left) {
        CallForBrown x = Check.told(house(0, 100, 1, 1) + seat(hears, 1) + seat(100, 2));
        Check.due("call(0) by hears " + hears, x.call(0), found);
        Check.due("found() by hears " + hears, x.found(), found);
        parts(x, left, 666666, 1);
    }

    private static void rounds() {
        Check.says("II", "ROUND: a row of ROOMS or NONE, one a MINUTE: the CALL (if any), then the MINUTE goes by.");
        CallForBrown x = Check.told(house(100, 100, 1, 1) + seat(50, 1) + seat(100, 0) + "door 0 1;");
        Check.row(x, 0, 0);
        Check.due("the CALL goes ahead", x.round(0), 500000);
        Check.due("the MINUTE goes by then", x.behind(0, 1), 500000);
        Check.row(x, 0, 1, 1);
        Check.due("nobody yet, all then", x.round(0), 1000000);
        Check.row(x, 0, -1, -1, 0);
        Check.due("to and fro without CALLS", x.round(0), 500000);
        x.row(0, 0, 0);
        Check.due("no MINUTE", x.behind(0, 0), 1000000);
    }

    private static void pence() {
        Check.says("II", "By pence (0 .. 9) one hears in a ROOM 100 less (100 less hears) by one more than the pence, cut");
        CallForBrown x = Check.told(FIRST + seat(0, 1) + seat(1, 1) + seat(99, 1) + seat(100, 1));
        int[][] due = {{0, 50, 67, 75, 80, 84, 86, 88, 89, 90}, {1, 51, 67, 76, 81, 84, 86, 88, 89, 91},
            {99, 100, 100, 100, 100, 100, 100, 100, 100, 100}, {100, 100, 100, 100, 100, 100, 100, 100, 100, 100}};
        for (int room = 0; room < due.length; room++) {
            for (int pence = 0; pence <= 9; pence++) {
                Check.due("hears(" + room + ", " + pence + ")", x.hears(room, pence), due[room][pence]);
            }
        }
        Check.due("hears(0, 10)", x.hears(0, 10), -2);
        Check.due("hears(0, -1)", x.hears(0, -1), -2);
    }

    // III.

    private static void boys() {
        Check.says("III", "A BOY goes each MINUTE by a door or stays, then CALLS there "
                + "(in the first MINUTE from the ROOM where he stands on).");
        CallForBrown x = Check.told(house(0, 100, 1, 1) + seat(100, 1) + seat(100, 2) + seat(100, 3) + "door 0 1;door 1 2;");
        Check.due("one MINUTE from 0 leads to 1", x.best(0, 1), 333333);
        Check.due("two lead to 2", x.best(0, 2), 833333);
        Check.due("from 1 he is in 2 at once", x.best(1, 1), 500000);
        Check.due("or he stays", x.best(2, 1), 500000);
        Check.due("goes(2, 1, 0)", x.goes(2, 1, 0), 2);
        CallForBrown alone = Check.told(house(0, 100, 1, 1) + seat(100, 1) + seat(100, 1));
        Check.due("without a door he stays", alone.best(0, 5), 500000);
    }

    private static void gains() {
        Check.says("III", "GAIN of a ROUND: worth times FOUND by a million, cut, less price for each of its MINUTES.");
        gain(house(0, 100, 1, 0) + seat(100, 1), 1);
        gain(house(0, 100, 1, 0) + seat(99, 1), 0);
        gain(house(0, 100, 999, 0) + seat(99, 1), 989);
        gain(house(0, 100, 0, 999) + seat(100, 1), -999);
        gain(house(0, 100, 999, 999) + seat(100, 1), 0);
        CallForBrown x = Check.told(house(0, 100, 999, 999) + seat(0, 1));
        x.row(0, 0, 60);
        Check.due("sixty MINUTES", x.gain(0), -59940);
        Check.row(x, 0, -1);
        Check.due("a MINUTE without a CALL", x.gain(0), -999);
    }

    private static void gain(String text, int due) {
        CallForBrown x = Check.told(text);
        Check.row(x, 0, 0);
        Check.due("gain(0) of " + text, x.gain(0), due);
    }

    // IV.

    private static void chase() {
        Check.says("IV", "HE is in any ROOM but theirs at first.");
        CallForBrown two = Check.told(FIRST + seat(1, 0) + seat(1, 0) + "door 0 1;");
        two.row(0, 0, 0);
        Check.due("slips(0, 0) at first", two.slips(0, 0), 2);
        Check.due("slips(0, 1) at first", two.slips(0, 1), 1);
        Check.due("no ROOM but theirs", two.two(0, 1), 0);
        Check.says("IV", "(So HE slips by one who comes the other way through the door.)");
        Check.row(two, 0, 1);
        Check.due("slips(0, 0)", two.slips(0, 0), 1);
        Check.due("one(0)", two.one(0), -1);
        Check.says("IV", "HE goes by a door or stays, seen by nobody; where a boy is then HE is not.");
        CallForBrown three = Check.told(FIRST + seat(1, 0) + seat(1, 0) + seat(1, 0) + "door 0 1;door 1 2;");
        Check.row(three, 0, 1);
        Check.due("HE is not in 1", three.slips(0, 0), 5);
        Check.row(three, 0, 0);
        Check.due("but may be in 1 or 2", three.slips(0, 0), 6);
        Check.says("IV", "A MINUTE: each boy goes by a door or stays");
        CallForBrown pair = Check.told(FIRST + seat(1, 0) + seat(1, 0) + "door 0 1;");
        Check.due("one stays, one goes", pair.two(0, 0), 1);
        Check.due("he who stays", pair.way(0, 0, 0, 0), 0);
        Check.due("he who goes", pair.way(0, 0, 1, 0), 1);
        Check.due("without a door neither goes", Check.told(FIRST + seat(1, 0) + seat(1, 0)).two(0, 0), -1);
        Check.says("IV", "CLEAR: HE can be in no ROOM.");
        CallForBrown one = Check.told(FIRST + seat(1, 0));
        Check.due("one(0) of one ROOM", one.one(0), 0);
        one.row(0, 0, 1);
        Check.due("slips(0, 0) of one ROOM", one.slips(0, 0), 0);
    }

    // V.

    private static void menOfSets() {
        Check.says("V", "ASKED a QUESTION, all of a set of MEN say yes or no, the one who is meant too: those stay who say as he.");
        CallForBrown x = Check.told(FIRST + "man weighs 1 yes 0 1 2 3 4 5;man weighs 1;man weighs 1 yes 0;");
        Check.due("all yes against no", x.which(3), 1);
        Check.due("yes(7, 0)", x.yes(7, 0), 5);
        Check.due("yes(7, 5)", x.yes(7, 5), 1);
        Check.says("V", "Worst: of both answers.");
        CallForBrown odd = Check.told(FIRST + "man weighs 99 yes 0;man weighs 1 yes 1;man weighs 1 yes 2;man weighs 1;");
        Check.due("the likeliest does not count", odd.which(15), 3);
        Check.due("which(7)", odd.which(7), 2);
    }

    private static void readAs() {
        Check.says("V", "by what the slate has (of itself 1, of others 0, where nothing is told)");
        CallForBrown x = Check.told(FIRST + MAN + MAN + "slate 0 as 1 9;");
        Check.due("slate(0, 0)", x.slate(0, 0), 1);
        Check.due("slate(1, 0)", x.slate(1, 0), 0);
        // 0 is read as 1 nine times in ten, 1 always: 9 / 10 and 1.
        Check.due("read(0, 1, 0)", x.read(0, 1, 0), 9);
        Check.due("read(0, 1, 1)", x.read(0, 1, 1), 19);
        Check.says("V", "by all that it has (as itself, if all are 0).");
        CallForBrown blank = Check.told(FIRST + MAN + MAN + "slate 0 as 0 0;slate 0 as 1 0;");
        Check.due("the slate stays 0", blank.slate(0, 0), 0);
        Check.due("read(0, 0, 0)", blank.read(0, 0, 0), 1);
        Check.due("read(0, 1, 0)", blank.read(0, 1, 0), 0);
        Check.due("right(0)", blank.right(0), 1);
        Check.due("right(1)", blank.right(1), 1);
        // All of 1 and half of 0, who weighs as much.
        CallForBrown half = Check.told(FIRST + MAN + MAN + "slate 0 as 1 1;slate 1 as 1 0;");
        Check.due("once as itself", half.read(1, 1, 0), 2);
        Check.due("below", half.read(1, 1, 1), 3);
        CallForBrown other = Check.told(FIRST + MAN + MAN + "slate 0 as 0 0;slate 0 as 1 1;");
        Check.due("one told is not all 0", other.read(0, 0, 0), 0);
        Check.due("he is never himself", other.guess(0), -1);
    }

    // VI.

    private static void fractions() {
        Check.says("VI", "FRACTIONS are told in lowest terms (0 / 1).");
        CallForBrown x = Check.told(FIRST + "man weighs 99;man weighs 33;man weighs 66;slate 0 as 1 3;slate 1 as 1 0;");
        Check.due("99 of 198", x.meant(7, 0, 0), 1);
        Check.due("below", x.meant(7, 0, 1), 2);
        Check.due("99 of 99", x.meant(1, 0, 0), 1);
        Check.due("below", x.meant(1, 0, 1), 1);
        Check.due("never", x.read(2, 1, 0), 0);
        Check.due("below", x.read(2, 1, 1), 1);
        Check.due("surely", x.read(2, 2, 0), 1);
        Check.due("below", x.read(2, 2, 1), 1);
    }

    private static void draws() {
        Check.says("VI", "DRAWS: x becomes (1103515245 x + 12345) modulo 2,147,483,648 (at first it is the seed)");
        // Whether HE is here tells the first draw: x / 65536 is 0, 16838, 908, 17747, .., of 100 what stands here.
        int[] seeds = {0, 1, 2, 3, 12345, 65535, 65536, 1000000000, 1999999999, 2000000000};
        int[] first = {0, 38, 8, 47, 68, 38, 77, 36, 33, 4};
        for (int i = 0; i < seeds.length; i++) {
            firstDraw(seeds[i], first[i]);
        }
        Check.says("VI", "a draw of n: x / 65536, cut, modulo n.");
        // The second draw of seed 1 is 5758: of one seat 0, of 99 seats 16, of 693 seats 214.
        seated(1, 0, seat(1, 1));
        seated(1, 1, seat(1, 16) + seat(1, 83));
        seated(1, 0, seat(1, 17) + seat(1, 82));
        seated(1, 2, seat(1, 99) + seat(1, 99) + seat(1, 99) + seat(1, 99) + seat(1, 99) + seat(1, 99) + seat(1, 99));
    }

    /** HE is here if the draw is below here, so OUT by as much, here by one more. */
    private static void firstDraw(int seed, int draw) {
        CallForBrown out = Check.told(house(0, draw, 1, 1) + seat(1, 1));
        out.row(0, 0, 0);
        Check.due("drawn(" + seed + ", 0, 1) by here " + draw, out.drawn(seed, 0, 1), -1);
        CallForBrown in = Check.told(house(0, draw + 1, 1, 1) + seat(1, 1));
        in.row(0, 0, 0);
        Check.due("drawn(" + seed + ", 0, 1) by here " + (draw + 1), in.drawn(seed, 0, 1), 0);
    }

    private static void evening() {
        Check.says("VI", "a draw of 100: not below here: HE is OUT");
        // Seed 0 draws 0 at first, seed 194 draws 99.
        CallForBrown nobody = Check.told(house(0, 0, 1, 1) + seat(1, 1));
        nobody.row(0, 0, 0);
        Check.due("0 is not below 0", nobody.drawn(0, 0, 1), -1);
        CallForBrown sure = Check.told(house(0, 100, 1, 1) + seat(1, 1));
        sure.row(0, 0, 0);
        Check.due("99 is below 100", sure.drawn(194, 0, 1), 0);
        CallForBrown almost = Check.told(house(0, 99, 1, 1) + seat(1, 1));
        almost.row(0, 0, 0);
        Check.due("99 is not below 99", almost.drawn(194, 0, 1), -1);
        Check.says("VI", "else a draw of all sits: the first ROOM by which sits told so far are above it (all 0: OUT).");
        // Seed 1 draws 5758 then: of 4 seats 2, of 5 seats 3.
        seated(1, 1, seat(1, 2) + seat(1, 2));
        seated(1, 0, seat(1, 3) + seat(1, 1));
        seated(1, 2, seat(1, 2) + seat(1, 0) + seat(1, 2));
        seated(1, 1, seat(1, 0) + seat(1, 5));
        seated(1, 2, seat(1, 0) + seat(1, 3) + seat(1, 2));
        seated(1, -1, seat(1, 0) + seat(1, 0));
        seated(1, -1, "");
    }

    private static void seated(int seed, int room, String rooms) {
        CallForBrown x = Check.told(house(0, 100, 1, 1) + rooms);
        x.row(0, 0, 0);
        Check.due("drawn(" + seed + ", 0, 1) of " + rooms, x.drawn(seed, 0, 1), room);
    }

    /** Seed 1 draws 38, 58, then 13, 15, 51, 27 of 100; behind the 13 it draws 17515. */
    private static void eveningMinutes() {
        Check.says("VI", "if the ROUND CALLS where HE is, a draw of 100: below hears FOUND");
        drawn(house(0, 100, 1, 1) + seat(13, 1), -1, 0, 0);
        drawn(house(0, 100, 1, 1) + seat(14, 1), 0, 0, 0);
        drawn(house(0, 100, 1, 1) + seat(13, 1), -1, 0, 0, 0);
        drawn(house(0, 100, 1, 1) + seat(15, 1) + seat(100, 0), 1, 0, 1, 0);
        drawn(house(0, 100, 1, 1) + seat(14, 1), 1, 0, -1, 0);
        drawn(house(0, 100, 1, 1) + seat(0, 1), -1, 0, 0, 0, 0, 0, 0);
        drawn(house(0, 100, 1, 1) + seat(100, 1), 0, 0, 0, 0);
        // Seed 0 draws 9988 there.
        CallForBrown last = Check.told(house(0, 100, 1, 1) + seat(88, 1));
        Check.row(last, 0, 0);
        Check.due("88 is not below 88", last.drawn(0, 0, 0), -1);
        last.tell(0, 1, 89);
        Check.due("88 is below 89", last.drawn(0, 0, 0), 0);
        Check.says("VI", "then, if HE is in a ROOM with doors, a draw of 100: below moves, a draw of as many as it has doors");
        String pair = seat(0, 1) + seat(0, 0) + "door 0 1;";
        drawn(house(13, 100, 1, 1) + pair, -1, 0, -1);
        drawn(house(14, 100, 1, 1) + pair, -1, 1, -1);
        drawn(house(0, 100, 1, 1) + pair, -1, 0, -1, -1, -1);
        drawn(house(100, 100, 1, 1) + pair, -1, 1, -1);
        // Not heard by 13, HE goes by 15 (not by 14).
        drawn(house(15, 100, 1, 1) + pair, -1, 0, 0);
        drawn(house(16, 100, 1, 1) + pair, -1, 1, 0);
        drawn(house(100, 100, 1, 1) + seat(14, 1) + seat(0, 0) + "door 0 1;", 0, 0, 0);
        Check.says("VI", "by that one (by the other ROOMS' numbers)");
        // 17515 is 1 of 2, 1 of 3, 3 of 4, 0 of 5, 1 of 6.
        drawn(house(100, 100, 1, 1) + seat(0, 0) + seat(0, 1) + seat(0, 0) + "door 1 2;door 0 1;", -1, 2, -1);
        String six = seat(0, 0) + seat(0, 0) + seat(0, 0) + seat(0, 1) + seat(0, 0) + seat(0, 0) + seat(0, 0);
        drawn(house(100, 100, 1, 1) + six + "door 3 6;door 3 5;door 3 4;", -1, 5, -1);
        drawn(house(100, 100, 1, 1) + six + "door 3 6;door 3 5;door 3 4;door 3 0;", -1, 6, -1);
        drawn(house(100, 100, 1, 1) + six + "door 3 6;door 3 5;door 3 4;door 3 2;door 3 1;", -1, 1, -1);
        drawn(house(100, 100, 1, 1) + six + "door 3 6;door 3 5;door 3 4;door 3 2;door 3 1;door 3 0;", -1, 1, -1);
    }

    private static void drawn(String text, int minute, int room, long... row) {
        CallForBrown x = Check.told(text);
        Check.row(x, 0, row);
        Check.due("drawn(1, 0, 0) of " + text, x.drawn(1, 0, 0), minute);
        Check.due("drawn(1, 0, 1) of " + text, x.drawn(1, 0, 1), room);
    }
}
