/** Promises 1 to 9 and 58 to 60: the text, what it tells, and what is told otherwise. */
public final class HouseTest {
    private static final String FIRST = "house moves 50 here 80 worth 100 price 5;";
    private static final String ROOM = "room people 10 hears 50 sits 2;";
    private static final String MAN = "man weighs 3;";

    public static void main(String[] args) {
        newObject();
        feedAndEnd();
        houses();
        faults();
        faultAsked();
        roomsAndMen();
        slates();
        hearsByPence();
        tells();
        shuts();
        counts();
        Check.finish();
    }

    private static void newObject() {
        CallForBrown x = new CallForBrown();
        for (int what = 0; what <= 7; what++) {
            Check.due("new count(" + what + ")", x.count(what), 0);
        }
        Check.due("new found()", x.found(), -2);
        Check.due("new room(0, 0)", x.room(0, 0), -2);
        Check.due("new man(0, 0)", x.man(0, 0), -2);
        Check.due("new back(2)", x.back(2), -6);
        Check.due("new write(0, 0, 1)", x.write(0, 0, 1), -6);
        Check.due("NONE", CallForBrown.NONE, -1);
    }

    private static void feedAndEnd() {
        CallForBrown x = new CallForBrown();
        Check.due("end(1) of nothing", x.end(1), -1);
        Check.due("end(0) of nothing", x.end(0), 0);
        for (int i = 1; i <= 45; i++) {
            Check.due("feed " + i, x.feed(-1, 0, 1, 2, 3), 20 * i);
        }
        Check.due("feed 46", x.feed(0, 0, 0, 0, 0), -1);
        Check.due("count(5) when full", x.count(5), 900);
        Check.due("end(901)", x.end(901), -1);
        Check.due("end(-1)", x.end(-1), -1);
        Check.due("count(5) stays", x.count(5), 900);
        Check.due("end(900)", x.end(900), 900);
        Check.due("end(881)", x.end(881), 881);
        Check.due("feed behind 881", x.feed(0, 0, 0, 0, 0), -1);
        Check.due("end(880)", x.end(880), 880);
        Check.due("feed behind 880", x.feed(0, 0, 0, 0, 0), 900);
        bytesInOrder();
    }

    private static void bytesInOrder() {
        CallForBrown x = new CallForBrown();
        x.feed('h' << 24 | 'o' << 16 | 'u' << 8 | 's', 'e' << 24 | ' ' << 16 | 'm' << 8 | 'o',
                'v' << 24 | 'e' << 16 | 's' << 8 | ' ', '1' << 24 | ' ' << 16 | 'h' << 8 | 'e',
                'r' << 24 | 'e' << 16 | ' ' << 8 | 128);
        Check.due("house() with byte 128", x.house(), -4);
        Check.due("fault(0) of byte 128", x.fault(0), 1);
        Check.due("fault(1) of byte 128", x.fault(1), 19);
        Check.due("end(19)", x.end(19), 19);
        Check.due("house() cut", x.house(), -4);
        Check.due("fault(1) at the end", x.fault(1), 19);
    }

    private static void houses() {
        CallForBrown x = new CallForBrown();
        Check.due("three lines", Check.tell(x, FIRST + "\n " + ROOM + "\n" + ROOM), 3);
        Check.due("tape is empty", x.count(5), 0);
        Check.due("call(0)", x.call(0), 200000);
        Check.due("faulty text", Check.tell(x, FIRST + "rooms"), -4);
        Check.due("house stays", x.count(0), 2);
        Check.due("lines stay", x.count(4), 3);
        Check.due("minutes stay", x.count(6), 1);
        Check.due("tape stays", x.count(5), FIRST.length() + 5);
        Check.due("found stays", x.found(), 200000);
        Check.due("another house", Check.tell(x, FIRST + MAN), 2);
        Check.due("no rooms now", x.count(0), 0);
        Check.due("one man now", x.count(2), 1);
        Check.due("no minutes now", x.count(6), 0);
        Check.due("found anew", x.found(), 0);
        Check.due("blanks alone", Check.tell(x, " \n \n"), 0);
        Check.due("no tape", x.count(5), 0);
        Check.due("no house", x.found(), -2);
        Check.due("no man", x.man(0, 0), -2);
        Check.due("no lines", x.count(4), 0);
        Check.due("the shortest blanks", Check.tell(x, "house moves50here0worth999price0;room people999hears100sits99;"), 2);
        Check.due("zeros ahead", Check.tell(x, "house moves 00000000000000000050 here 080 worth 1 price 1;"), 1);
        Check.due("the least", Check.tell(x, "house moves 0 here 0 worth 0 price 0;room people 0 hears 0 sits 0;"), 2);
        Check.due("the most", Check.tell(x, "house moves 100 here 100 worth 999 price 999;"), 1);
        Check.due("like lines", Check.tell(x, FIRST + ROOM + ROOM + "door 0 1;door 1 0;door 0 1;man weighs 99 yes 5 5 0;"), 7);
        Check.due("like doors", x.count(1), 1);
        Check.due("like questions", x.man(0, 1), 33);
    }

    private static void fault(String text, int fault, int place) {
        CallForBrown x = new CallForBrown();
        Check.due("house() of " + text, Check.tell(x, text), -4);
        Check.due("fault(0) of " + text, x.fault(0), fault);
        Check.due("fault(1) of " + text, x.fault(1), place);
        Check.due("count(0) of " + text, x.count(0), 0);
    }

    /** The FAULT stands at the first sign of bad, behind ahead. */
    private static void faultIn(String ahead, String bad, int fault) {
        fault(ahead + bad, fault, ahead.length());
    }

    private static void faults() {
        faultIn("", ROOM, 1);
        faultIn("", ";", 1);
        faultIn("", "7", 1);
        faultIn("  \n", "House moves 1;", 1);
        faultIn("", "houses moves 1;", 1);
        faultIn("", "hous moves 1;", 1);
        faultIn("house ", "here 1 moves 1", 1);
        faultIn("house moves ", ";", 1);
        faultIn("house moves ", "101 here 5", 2);
        faultIn("house moves 100 here ", "101;", 2);
        faultIn("house moves 1 here 1 worth ", "1000", 2);
        faultIn("house moves 1 here 1 worth 1 price ", "1000", 2);
        faultIn("house moves 1 here 1 worth 1 price ", "99999999999999999999999999999999", 2);
        faultIn("house moves 1 here 1 worth 1 price ", "4294967297", 2);
        faultIn("house moves 1 here 1 worth 1 price ", "-1", 1);
        faultIn("house moves 1 here 1 worth 1 price 1 ", "room", 1);
        faultIn("house moves 1 here 1 worth 1 price 1", "", 1);
        faultIn("house moves 1 here 1 worth 1 price 1 \n ", "", 1);
        faultIn("house moves 1\there 1".substring(0, 13), "\there 1", 1);
        faultIn("house moves 1", "\0", 1);
        faultIn("house", "", 1);
        faultIn(FIRST, FIRST, 1);
        faultIn(FIRST, ";", 1);
        faultIn(FIRST, "people 1;", 1);
        faultIn(FIRST, "0", 1);
        roomFaults();
        manFaults();
    }

    private static void roomFaults() {
        faultIn(FIRST + "room ", "hears", 1);
        faultIn(FIRST + "room people ", "1000 hears 101", 2);
        faultIn(FIRST + "room people 999 hears ", "101", 2);
        faultIn(FIRST + "room people 999 hears 100 sits ", "100;", 2);
        faultIn(FIRST + "room people 999 hears 100 sits 99", "", 1);
        faultIn(FIRST + "room people 999 hears 100 sits 99 ", "99;", 1);
        faultIn(FIRST + "door ", "0 1;", 2);
        faultIn(FIRST + ROOM + ROOM + "door 0 ", "2;", 2);
        faultIn(FIRST + ROOM + ROOM + "door ", "2 0;", 2);
        faultIn(FIRST + ROOM + ROOM + "door 1 ", "1;", 2);
        faultIn(FIRST + ROOM + ROOM + "door 1 ", "as 1;", 1);
        faultIn(FIRST + ROOM + ROOM + "door 1", ";", 1);
        String seven = FIRST + ROOM + ROOM + ROOM + ROOM + ROOM + ROOM + ROOM;
        Check.due("seven rooms", Check.told(seven).count(0), 7);
        faultIn(seven + "\n", ROOM, 3);
        faultIn(seven, "room", 3);
        faultIn(seven, "room people 1000", 3);
        faultIn(seven, "rooms", 1);
        faultIn(seven, "roomz", 1);
        faultIn(seven, "rooma", 1);
        faultIn(seven, "room0", 3);
    }

    private static void manFaults() {
        faultIn(FIRST + "man ", "yes 1;", 1);
        faultIn(FIRST + "man weighs ", "0;", 2);
        faultIn(FIRST + "man weighs ", "100;", 2);
        faultIn(FIRST + "man weighs 99 ", "5;", 1);
        faultIn(FIRST + "man weighs 99 yes ", ";", 1);
        faultIn(FIRST + "man weighs 99 yes ", "6;", 2);
        faultIn(FIRST + "man weighs 99 yes 0 1 ", "7;", 2);
        faultIn(FIRST + "man weighs 99 yes 0 1 ", "yes 2;", 1);
        faultIn(FIRST + MAN + "slate ", "1 as 0 5;", 2);
        faultIn(FIRST + MAN + "slate 0 ", "is 0 5;", 1);
        faultIn(FIRST + MAN + "slate 0 as ", "1 5;", 2);
        faultIn(FIRST + MAN + "slate 0 as 0 ", "10;", 2);
        faultIn(FIRST + MAN + "slate 0 as 0 ", ";", 1);
        faultIn(FIRST + MAN + "slate 0 as 0 9 ", "9;", 1);
        String six = FIRST + MAN + MAN + MAN + MAN + MAN + MAN;
        Check.due("six men", Check.told(six).count(2), 6);
        faultIn(six, MAN, 3);
        faultIn(six, "man weighs 0", 3);
    }

    private static void faultAsked() {
        CallForBrown x = new CallForBrown();
        Check.due("fault(0) ahead of any", x.fault(0), 0);
        Check.due("fault(1) ahead of any", x.fault(1), -1);
        Check.due("fault(2)", x.fault(2), -1);
        Check.due("fault(-1)", x.fault(-1), -1);
        Check.tell(x, FIRST + "room people 1000");
        Check.due("fault(0)", x.fault(0), 2);
        Check.due("fault(1)", x.fault(1), FIRST.length() + 12);
        Check.due("fault(2) with one", x.fault(2), -1);
        Check.tell(x, FIRST);
        Check.due("fault(0) of the latest", x.fault(0), 0);
        Check.due("fault(1) of the latest", x.fault(1), -1);
    }

    private static void roomsAndMen() {
        CallForBrown x = Check.told(FIRST + ROOM + "room people 999 hears 100 sits 99;room people 0 hears 0 sits 0;"
                + "door 2 0;door 1 2;man weighs 99 yes 5 0 3;man weighs 1;");
        Check.due("room(0, 0)", x.room(0, 0), 10);
        Check.due("room(0, 1)", x.room(0, 1), 50);
        Check.due("room(0, 2)", x.room(0, 2), 2);
        Check.due("room(0, 3)", x.room(0, 3), 4);
        Check.due("room(1, 0)", x.room(1, 0), 999);
        Check.due("room(1, 1)", x.room(1, 1), 100);
        Check.due("room(1, 2)", x.room(1, 2), 99);
        Check.due("room(1, 3)", x.room(1, 3), 4);
        Check.due("room(2, 3)", x.room(2, 3), 3);
        Check.due("room(3, 0)", x.room(3, 0), -2);
        Check.due("room(-1, 0)", x.room(-1, 0), -2);
        Check.due("room(0, 4)", x.room(0, 4), -2);
        Check.due("room(0, -1)", x.room(0, -1), -2);
        Check.due("man(0, 0)", x.man(0, 0), 99);
        Check.due("man(0, 1)", x.man(0, 1), 41);
        Check.due("man(1, 0)", x.man(1, 0), 1);
        Check.due("man(1, 1)", x.man(1, 1), 0);
        Check.due("man(2, 0)", x.man(2, 0), -2);
        Check.due("man(-1, 0)", x.man(-1, 0), -2);
        Check.due("man(0, 2)", x.man(0, 2), -2);
        Check.due("man(0, -1)", x.man(0, -1), -2);
    }

    private static void slates() {
        CallForBrown x = Check.told(FIRST + MAN + MAN + "slate 0 as 1 3;slate 1 as 1 0;slate 0 as 1 4;" + MAN);
        Check.due("slate(0, 0)", x.slate(0, 0), 1);
        Check.due("slate(0, 1)", x.slate(0, 1), 4);
        Check.due("slate(0, 2)", x.slate(0, 2), 0);
        Check.due("slate(1, 1)", x.slate(1, 1), 0);
        Check.due("slate(1, 0)", x.slate(1, 0), 0);
        Check.due("slate(2, 2)", x.slate(2, 2), 1);
        Check.due("slate(3, 0)", x.slate(3, 0), -2);
        Check.due("slate(0, 3)", x.slate(0, 3), -2);
        Check.due("slate(-1, 0)", x.slate(-1, 0), -2);
        Check.due("slate(0, -1)", x.slate(0, -1), -2);
        Check.tell(x, FIRST + MAN + MAN);
        Check.due("slate(0, 1) of another house", x.slate(0, 1), 0);
        Check.due("slate(1, 1) of another house", x.slate(1, 1), 1);
        Check.tell(x, FIRST + MAN + MAN + MAN + "slate 2 as 0 5;slate 2 as 1 6;slate 1 as 0 7;slate 0 as 2 8;slate 2 as 2 9;");
        Check.tell(x, FIRST + MAN + MAN + MAN);
        for (int man = 0; man < 3; man++) {
            for (int as = 0; as < 3; as++) {
                Check.due("slate(" + man + ", " + as + ") anew", x.slate(man, as), man == as ? 1 : 0);
            }
        }
    }

    private static void hearsByPence() {
        CallForBrown x = Check.told(FIRST + "room people 1 hears 25 sits 1;room people 1 hears 100 sits 1;");
        Check.due("hears(0, 0)", x.hears(0, 0), 25);
        Check.due("hears(0, 1)", x.hears(0, 1), 63);
        Check.due("hears(0, 2)", x.hears(0, 2), 75);
        Check.due("hears(0, 3)", x.hears(0, 3), 82);
        Check.due("hears(0, 9)", x.hears(0, 9), 93);
        Check.due("hears(1, 9)", x.hears(1, 9), 100);
        Check.due("hears(0, 10)", x.hears(0, 10), -2);
        Check.due("hears(0, -1)", x.hears(0, -1), -2);
        Check.due("hears(2, 0)", x.hears(2, 0), -2);
        Check.due("hears(-1, 0)", x.hears(-1, 0), -2);
    }

    private static void tells() {
        CallForBrown x = Check.told(FIRST + ROOM + ROOM);
        Check.due("tell(0, 0, 999)", x.tell(0, 0, 999), 10);
        Check.due("tell(0, 1, 100)", x.tell(0, 1, 100), 50);
        Check.due("tell(0, 2, 99)", x.tell(0, 2, 99), 2);
        Check.due("tell(0, 2, 6)", x.tell(0, 2, 6), 99);
        Check.due("people", x.room(0, 0), 999);
        Check.due("hears", x.room(0, 1), 100);
        Check.due("sits", x.room(0, 2), 6);
        Check.due("the other stays", x.room(1, 2), 2);
        Check.due("parts by other sits", x.parts(0), 600000);
        Check.due("parts of the other", x.parts(1), 200000);
        Check.due("tell(0, 0, 1000)", x.tell(0, 0, 1000), -2);
        Check.due("tell(0, 1, 101)", x.tell(0, 1, 101), -2);
        Check.due("tell(0, 2, 100)", x.tell(0, 2, 100), -2);
        Check.due("tell(0, 0, -1)", x.tell(0, 0, -1), -2);
        Check.due("tell(0, 3, 0)", x.tell(0, 3, 0), -2);
        Check.due("tell(0, -1, 0)", x.tell(0, -1, 0), -2);
        Check.due("tell(2, 0, 0)", x.tell(2, 0, 0), -2);
        Check.due("tell(-1, 0, 0)", x.tell(-1, 0, 0), -2);
        x.call(-1);
        Check.due("tell with a minute", x.tell(0, 0, 5), -5);
        Check.due("-2 ahead of -5", x.tell(0, 3, 5), -2);
        Check.due("people stay", x.room(0, 0), 999);
        x.undo();
        Check.due("tell again", x.tell(0, 0, 5), 999);
    }

    private static void shuts() {
        CallForBrown x = Check.told(FIRST + ROOM + ROOM + ROOM + "door 0 1;");
        Check.due("shut(1, 0, 1)", x.shut(1, 0, 1), 1);
        Check.due("shut(2, 0, 1)", x.shut(2, 0, 1), 0);
        Check.due("two doors", x.count(1), 2);
        Check.due("doors of 0", x.room(0, 3), 6);
        Check.due("doors of 2", x.room(2, 3), 1);
        Check.due("shut(0, 1, 0)", x.shut(0, 1, 0), 1);
        Check.due("shut(0, 1, 0) again", x.shut(0, 1, 0), 0);
        Check.due("doors of 1", x.room(1, 3), 0);
        Check.due("one door", x.count(1), 1);
        Check.due("one twice", x.shut(1, 1, 1), -2);
        Check.due("shut(0, 3, 1)", x.shut(0, 3, 1), -2);
        Check.due("shut(-1, 0, 1)", x.shut(-1, 0, 1), -2);
        Check.due("shut(0, 1, 2)", x.shut(0, 1, 2), -2);
        Check.due("shut(0, 1, -1)", x.shut(0, 1, -1), -2);
        x.call(0);
        Check.due("shut with a minute", x.shut(0, 1, 1), -5);
        Check.due("shut -2 ahead of -5", x.shut(0, 0, 1), -2);
        Check.due("no door came", x.count(1), 1);
        x.anew();
        Check.due("shut again", x.shut(0, 1, 1), 0);
    }

    private static void counts() {
        CallForBrown x = Check.told(FIRST + ROOM + ROOM + "room people 7 hears 1 sits 1;door 0 1;door 2 1;" + MAN);
        x.feed(0, 0, 0, 0, 0);
        x.end(17);
        x.call(0);
        x.call(-1);
        x.row(0, 0, 5);
        x.row(3, 1, 0);
        int[] due = {3, 2, 1, 27, 7, 17, 2, 2};
        for (int what = 0; what < due.length; what++) {
            Check.due("count(" + what + ")", x.count(what), due[what]);
        }
        Check.due("count(8)", x.count(8), -1);
        Check.due("count(-1)", x.count(-1), -1);
    }
}
