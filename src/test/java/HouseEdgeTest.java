/** The edges that promises 1 to 9 and 58 to 60 name, a sentence each. */
public final class HouseEdgeTest {
    private static final String FIRST = "house moves 50 here 80 worth 100 price 5;";
    private static final String ROOM = "room people 10 hears 50 sits 2;";
    private static final String MAN = "man weighs 3 yes 1;";
    private static final String HOUSE = FIRST + ROOM + ROOM + ROOM + "door 0 1;" + MAN + MAN + "slate 0 as 1 4;";
    private static final int BLANKS = 0x20202020;
    private static final int[] FAR = {Integer.MIN_VALUE, -1000000, -2, 1000000, Integer.MAX_VALUE};

    public static void main(String[] args) {
        newObject();
        feedOrder();
        feedFull();
        end();
        endThenFeed();
        house();
        houseOfNothing();
        houseFaulty();
        fault();
        faultOfTheLatest();
        room();
        man();
        slate();
        hears();
        tell();
        tellRefused();
        shut();
        shutRefused();
        count();
        countMinutesAndSlots();
        Check.finish();
    }

    private static void newObject() {
        Check.says("1", "No HOUSE.");
        CallForBrown x = new CallForBrown();
        Check.due("found()", x.found(), -2);
        Check.due("parts(NONE)", x.parts(-1), -2);
        Check.due("likely()", x.likely(), -2);
        Check.due("room(0, 0)", x.room(0, 0), -2);
        Check.due("man(0, 0)", x.man(0, 0), -2);
        for (int what = 0; what <= 7; what++) {
            Check.due("count(" + what + ")", x.count(what), 0);
        }
        for (int slot = 0; slot < 4; slot++) {
            Check.due("write(" + slot + ", 0, 0)", x.write(slot, 0, 0), -6);
        }
        for (int k = 0; k < 3; k++) {
            Check.due("back(" + k + ")", x.back(k), -6);
        }
    }

    /** One byte of twenty is no TOKEN: its place is told. */
    private static void feedOrder() {
        Check.says("2", "Twenty bytes come behind the TAPE, four of each number, the highest first: how many it has");
        CallForBrown x = new CallForBrown();
        for (int place = 0; place < 20; place++) {
            int[] five = {BLANKS, BLANKS, BLANKS, BLANKS, BLANKS};
            five[place / 4] |= 255 << 8 * (3 - place % 4);
            x.end(0);
            Check.due("feed, 255 at " + place, x.feed(five[0], five[1], five[2], five[3], five[4]), 20);
            Check.due("house(), 255 at " + place, x.house(), -4);
            Check.due("fault(1), 255 at " + place, x.fault(1), place);
        }
        x.end(0);
        x.feed(BLANKS, BLANKS, BLANKS, BLANKS, BLANKS);
        Check.due("behind the TAPE", x.feed(-1, -1, -1, -1, -1), 40);
        Check.due("house()", x.house(), -4);
        Check.due("fault(1)", x.fault(1), 20);
    }

    private static void feedFull() {
        Check.says("2", "NONE, and none come, if it would have more than 900.");
        CallForBrown x = new CallForBrown();
        for (int i = 1; i <= 45; i++) {
            Check.due("feed " + i, x.feed(BLANKS, BLANKS, BLANKS, BLANKS, BLANKS), 20 * i);
        }
        Check.due("900 are full", x.feed(-1, -1, -1, -1, -1), -1);
        Check.due("none came", x.count(5), 900);
        x.end(881);
        Check.due("901 are too many", x.feed(-1, -1, -1, -1, -1), -1);
        Check.due("none came behind 881", x.count(5), 881);
        x.end(880);
        Check.due("900 are not", x.feed(BLANKS, BLANKS, BLANKS, BLANKS, BLANKS), 900);
        Check.due("all blanks yet", x.house(), 0);
        Check.due("room again", x.feed(-1, -1, -1, -1, -1), 20);
    }

    private static void end() {
        Check.says("3", "The TAPE has its first n bytes alone: n");
        CallForBrown x = new CallForBrown();
        Check.due("end(0) of none", x.end(0), 0);
        x.feed(1, 2, 3, 4, 5);
        Check.due("end(20) of 20", x.end(20), 20);
        Check.due("end(19)", x.end(19), 19);
        Check.due("count(5)", x.count(5), 19);
        Check.says("3", "NONE, and nothing happens, if it has not so many, or n is below 0.");
        Check.due("end(20) of 19", x.end(20), -1);
        Check.due("end(-1)", x.end(-1), -1);
        for (int n : FAR) {
            Check.due("end(" + n + ")", x.end(n), -1);
        }
        Check.due("count(5) stays", x.count(5), 19);
        Check.due("end(0)", x.end(0), 0);
        Check.due("end(1) of none", x.end(1), -1);
        Check.due("count(5) of none", x.count(5), 0);
    }

    private static void endThenFeed() {
        Check.says("3", "The TAPE has its first n bytes alone: n");
        CallForBrown x = new CallForBrown();
        x.feed(BLANKS, BLANKS | 255 << 16, BLANKS, BLANKS, BLANKS);
        x.end(5);
        Check.due("feed behind 5", x.feed(BLANKS, BLANKS, BLANKS, BLANKS, BLANKS | 255), 25);
        Check.due("house()", x.house(), -4);
        Check.due("fault(1), the byte at 5 is gone", x.fault(1), 24);
    }

    private static void house() {
        Check.says("4", "The TAPE (empty then) is the HOUSE (in place of another): how many LINES");
        CallForBrown x = new CallForBrown();
        Check.due("eight LINES", Check.tell(x, HOUSE), 8);
        Check.due("the TAPE is empty", x.count(5), 0);
        x.call(0);
        x.row(0, 0, 1);
        x.image(0);
        Check.due("another", Check.tell(x, FIRST + MAN), 2);
        Check.due("no ROOMS of the first", x.count(0), 0);
        Check.due("no doors of the first", x.count(1), 0);
        Check.due("one MAN", x.count(2), 1);
        Check.due("no MINUTES of the first", x.count(6), 0);
        Check.due("nothing FOUND", x.found(), 0);
        Check.due("SLOTS stay", x.count(7), 1);
        Check.due("IMAGES stay", x.back(0), 0);
        Check.due("the first again", x.count(0), 3);
        Check.tell(x, FIRST + ROOM + ROOM + MAN + MAN);
        Check.due("no door of the first", x.room(0, 3), 0);
        Check.due("no slate of the first", x.slate(0, 1), 0);
        String three = FIRST + MAN + MAN + MAN;
        Check.tell(x, three + "slate 0 as 2 1;slate 1 as 0 2;slate 1 as 1 3;slate 1 as 2 4;slate 2 as 0 5;slate 2 as 1 6;");
        Check.tell(x, three);
        for (int man = 0; man < 3; man++) {
            for (int as = 0; as < 3; as++) {
                Check.due("slate(" + man + ", " + as + ") anew", x.slate(man, as), man == as ? 1 : 0);
            }
        }
        Check.due("the TAPE is empty", x.count(5), 0);
    }

    private static void houseOfNothing() {
        Check.says("4", "(0: there is none then)");
        CallForBrown x = Check.told(HOUSE);
        x.call(0);
        Check.due("an empty TAPE", x.house(), 0);
        Check.due("no HOUSE", x.found(), -2);
        Check.due("no ROOM", x.room(0, 0), -2);
        Check.due("no MINUTES", x.count(6), 0);
        Check.due("no MINUTE can be taken back", x.undo(), -2);
        Check.tell(x, HOUSE);
        Check.due("blanks alone", Check.tell(x, " \n "), 0);
        Check.due("no HOUSE by blanks", x.parts(-1), -2);
        Check.due("no bytes", x.count(5), 0);
        CallForBrown fresh = new CallForBrown();
        Check.due("nothing of a new object", fresh.house(), 0);
        Check.due("nor a HOUSE", fresh.here(), -2);
    }

    private static void houseFaulty() {
        Check.says("4", "-4: a FAULT (all stays).");
        CallForBrown x = Check.told(HOUSE);
        x.call(0);
        Check.row(x, 1, 0, 1, -1);
        Check.put(x, FIRST + ROOM + "room people 7 hears 7 sits");
        Check.due("house()", x.house(), -4);
        String seen = Check.look(x);
        Check.due("the HOUSE stays", x.count(4), 8);
        Check.due("the MINUTE stays", x.count(6), 1);
        Check.due("the TAPE stays", x.count(5), FIRST.length() + ROOM.length() + 26);
        Check.due("again", x.house(), -4);
        Check.stays("house()", x, seen);
        x.end(FIRST.length() + ROOM.length());
        Check.due("cut off what was bad", x.house(), 2);
    }

    private static void fault() {
        Check.says("5", "Of the latest house(), what 0: its FAULT, 0 without, 1: its place (NONE without).");
        CallForBrown x = Check.told(FIRST);
        Check.due("fault(0) without", x.fault(0), 0);
        Check.due("fault(1) without", x.fault(1), -1);
        Check.tell(x, "?");
        Check.due("fault(0) with", x.fault(0), 1);
        Check.due("fault(1) at the first byte", x.fault(1), 0);
        Check.says("5", "NONE for another what, and ahead of any (what 1).");
        CallForBrown fresh = new CallForBrown();
        Check.due("fault(1) ahead of any", fresh.fault(1), -1);
        Check.due("fault(0) ahead of any", fresh.fault(0), 0);
        for (int what : new int[] {-1, 2, Integer.MIN_VALUE, Integer.MAX_VALUE}) {
            Check.due("fault(" + what + ") ahead of any", fresh.fault(what), -1);
            Check.due("fault(" + what + ") with one", x.fault(what), -1);
        }
    }

    private static void faultOfTheLatest() {
        Check.says("5", "Of the latest house()");
        CallForBrown x = Check.told(FIRST + ROOM);
        x.image(0);
        Check.tell(x, FIRST + "room people 1000;");
        x.end(0);
        x.feed(1, 2, 3, 4, 5);
        x.back(0);
        x.call(0);
        Check.due("fault(0) stays", x.fault(0), 2);
        Check.due("fault(1) stays", x.fault(1), FIRST.length() + 12);
        Check.tell(x, FIRST);
        Check.due("fault(0) of another", x.fault(0), 0);
        Check.due("fault(1) of another", x.fault(1), -1);
        Check.tell(x, "?");
        Check.tell(x, "");
        Check.due("fault(0) of nothing", x.fault(0), 0);
        Check.due("fault(1) of nothing", x.fault(1), -1);
    }

    private static CallForBrown full() {
        StringBuilder text = new StringBuilder(FIRST);
        for (int i = 0; i < 7; i++) {
            text.append("room people ").append(i).append(" hears ").append(10 + i).append(" sits ").append(20 + i).append(';');
        }
        for (int i = 0; i < 6; i++) {
            text.append("man weighs ").append(30 + i).append(" yes ").append(i).append(";door ").append(i).append(" 6;");
        }
        return Check.told(text.toString());
    }

    private static void room() {
        Check.says("6", "Of a ROOM, what 0: people, 1: hears, 2: sits, 3: ROOMS to which its doors lead, as bits.");
        CallForBrown x = full();
        for (int room = 0; room < 7; room++) {
            Check.due("people of " + room, x.room(room, 0), room);
            Check.due("hears of " + room, x.room(room, 1), 10 + room);
            Check.due("sits of " + room, x.room(room, 2), 20 + room);
            Check.due("doors of " + room, x.room(room, 3), room == 6 ? 63 : 64);
        }
        Check.says("6", "-2: there are none such.");
        CallForBrown three = Check.told(HOUSE);
        CallForBrown empty = Check.told(FIRST);
        CallForBrown none = new CallForBrown();
        for (int what = -1; what <= 4; what++) {
            Check.due("room(7, " + what + ")", x.room(7, what), -2);
            Check.due("room(-1, " + what + ")", x.room(-1, what), -2);
            Check.due("room(3, " + what + ") of three", three.room(3, what), -2);
            Check.due("room(0, " + what + ") without ROOMS", empty.room(0, what), -2);
            Check.due("room(0, " + what + ") without a HOUSE", none.room(0, what), -2);
        }
        Check.due("room(6, 4)", x.room(6, 4), -2);
        Check.due("room(6, -1)", x.room(6, -1), -2);
        for (int far : FAR) {
            Check.due("room(" + far + ", 0)", x.room(far, 0), -2);
            Check.due("room(0, " + far + ")", x.room(0, far), -2);
        }
    }

    private static void man() {
        Check.says("7", "Of a MAN, what 0: weighs, 1: QUESTIONS to which he says yes, as bits.");
        CallForBrown x = full();
        for (int man = 0; man < 6; man++) {
            Check.due("man(" + man + ", 0)", x.man(man, 0), 30 + man);
            Check.due("man(" + man + ", 1)", x.man(man, 1), 1 << man);
        }
        Check.says("7", "-2: there are none such.");
        CallForBrown two = Check.told(HOUSE);
        CallForBrown empty = Check.told(FIRST);
        CallForBrown none = new CallForBrown();
        for (int what = 0; what <= 1; what++) {
            Check.due("man(6, " + what + ")", x.man(6, what), -2);
            Check.due("man(-1, " + what + ")", x.man(-1, what), -2);
            Check.due("man(2, " + what + ") of two", two.man(2, what), -2);
            Check.due("man(0, " + what + ") without MEN", empty.man(0, what), -2);
            Check.due("man(0, " + what + ") without a HOUSE", none.man(0, what), -2);
        }
        Check.due("man(5, 2)", x.man(5, 2), -2);
        Check.due("man(5, -1)", x.man(5, -1), -2);
        for (int far : FAR) {
            Check.due("man(" + far + ", 0)", x.man(far, 0), -2);
            Check.due("man(0, " + far + ")", x.man(0, far), -2);
        }
    }

    private static void slate() {
        Check.says("8", "What the slate has of one MAN as another (or himself).");
        CallForBrown x = full();
        CallForBrown two = Check.told(HOUSE);
        Check.due("slate(5, 5)", x.slate(5, 5), 1);
        Check.due("slate(5, 0)", x.slate(5, 0), 0);
        Check.due("slate(0, 1)", two.slate(0, 1), 4);
        Check.due("slate(1, 0)", two.slate(1, 0), 0);
        Check.says("8", "-2: there are none such.");
        Check.due("slate(6, 0)", x.slate(6, 0), -2);
        Check.due("slate(0, 6)", x.slate(0, 6), -2);
        Check.due("slate(-1, 0)", x.slate(-1, 0), -2);
        Check.due("slate(0, -1)", x.slate(0, -1), -2);
        Check.due("slate(2, 0) of two", two.slate(2, 0), -2);
        Check.due("slate(0, 2) of two", two.slate(0, 2), -2);
        Check.due("slate(0, 0) without MEN", Check.told(FIRST).slate(0, 0), -2);
        Check.due("slate(0, 0) without a HOUSE", new CallForBrown().slate(0, 0), -2);
        for (int far : FAR) {
            Check.due("slate(" + far + ", 0)", x.slate(far, 0), -2);
            Check.due("slate(0, " + far + ")", x.slate(0, far), -2);
        }
    }

    private static void hears() {
        Check.says("9", "hears of a ROOM by so many pence (0 .. 9).");
        CallForBrown x = full();
        Check.due("hears(6, 0)", x.hears(6, 0), 16);
        // 84 by ten is 8.
        Check.due("hears(6, 9)", x.hears(6, 9), 92);
        x.tell(6, 1, 0);
        Check.due("hears(6, 9) of 0", x.hears(6, 9), 90);
        Check.says("9", "-2: there are none such.");
        Check.due("hears(6, 10)", x.hears(6, 10), -2);
        Check.due("hears(6, -1)", x.hears(6, -1), -2);
        Check.due("hears(7, 0)", x.hears(7, 0), -2);
        Check.due("hears(-1, 0)", x.hears(-1, 0), -2);
        Check.due("hears(3, 0) of three", Check.told(HOUSE).hears(3, 0), -2);
        Check.due("hears(0, 0) without ROOMS", Check.told(FIRST).hears(0, 0), -2);
        Check.due("hears(0, 0) without a HOUSE", new CallForBrown().hears(0, 0), -2);
        for (int far : FAR) {
            Check.due("hears(" + far + ", 0)", x.hears(far, 0), -2);
            Check.due("hears(0, " + far + ")", x.hears(0, far), -2);
        }
    }

    private static void tell() {
        Check.says("58", "A ROOM's people (what 0), hears (1), sits (2) are n (as told at most) from now on: what it was.");
        CallForBrown x = Check.told(HOUSE);
        int[] was = {10, 50, 2};
        int[] most = {999, 100, 99};
        for (int what = 0; what < 3; what++) {
            Check.due("tell(2, " + what + ", 0)", x.tell(2, what, 0), was[what]);
            Check.due("tell(2, " + what + ", the most)", x.tell(2, what, most[what]), 0);
            Check.due("room(2, " + what + ")", x.room(2, what), most[what]);
            Check.due("as it is", x.tell(2, what, most[what]), most[what]);
            Check.due("the ROOM ahead stays", x.room(1, what), was[what]);
        }
        // Of 103 seats 99.
        Check.due("PARTS by it", x.parts(2), 768932);
        Check.due("OUT by it", x.parts(-1), 200002);
        Check.due("CALLS by it", x.call(2), 768932);
        Check.due("LINES stay", x.count(4), 8);
    }

    private static void tellRefused() {
        Check.says("58", "-2: there are none such.");
        CallForBrown x = Check.told(HOUSE);
        String seen = Check.look(x);
        int[] most = {999, 100, 99};
        for (int what = 0; what < 3; what++) {
            Check.due("one above of " + what, x.tell(2, what, most[what] + 1), -2);
            Check.due("below 0 of " + what, x.tell(2, what, -1), -2);
            Check.due("tell(3, " + what + ", 0)", x.tell(3, what, 0), -2);
            Check.due("tell(-1, " + what + ", 0)", x.tell(-1, what, 0), -2);
            for (int far : FAR) {
                Check.due("tell(0, " + what + ", " + far + ")", x.tell(0, what, far), -2);
            }
        }
        Check.due("tell(0, 3, 0)", x.tell(0, 3, 0), -2);
        Check.due("tell(0, -1, 0)", x.tell(0, -1, 0), -2);
        Check.stays("tell of none such", x, seen);
        Check.due("without ROOMS", Check.told(FIRST).tell(0, 0, 0), -2);
        Check.due("without a HOUSE", new CallForBrown().tell(0, 0, 0), -2);
        Check.says("58", "-5: there were MINUTES that are not taken back");
        x.call(-1);
        seen = Check.look(x);
        for (int what = 0; what < 3; what++) {
            Check.due("tell(0, " + what + ", 1) with a MINUTE", x.tell(0, what, 1), -5);
        }
        Check.due("-2 ahead of -5", x.tell(0, 0, 1000), -2);
        Check.stays("tell with a MINUTE", x, seen);
        x.undo();
        Check.due("taken back", x.tell(0, 0, 1), 10);
        x.call(0);
        x.call(0);
        x.undo();
        Check.due("one of two taken back", x.tell(0, 0, 2), -5);
        x.anew();
        Check.due("all taken back", x.tell(0, 0, 2), 1);
    }

    private static void shut() {
        Check.says("59", "A door between two ROOMS is open (1) or there is none (0) from now on: whether there was.");
        CallForBrown x = Check.told(HOUSE);
        Check.due("no door, none then", x.shut(0, 2, 0), 0);
        Check.due("no door, one then", x.shut(0, 2, 1), 0);
        Check.due("a door, one then", x.shut(2, 0, 1), 1);
        Check.due("two doors", x.count(1), 2);
        Check.due("of 0", x.room(0, 3), 6);
        Check.due("of 2", x.room(2, 3), 1);
        Check.due("a door, none then", x.shut(2, 0, 0), 1);
        Check.due("of 0 again", x.room(0, 3), 2);
        Check.due("of 2 again", x.room(2, 3), 0);
        Check.due("one that was told", x.shut(1, 0, 0), 1);
        Check.due("no doors", x.count(1), 0);
        Check.due("LINES stay", x.count(4), 8);
        CallForBrown all = Check.told(FIRST + ROOM + ROOM + ROOM + ROOM + ROOM + ROOM + ROOM);
        for (int room = 0; room < 7; room++) {
            for (int other = 0; other < room; other++) {
                Check.due("shut(" + room + ", " + other + ", 1)", all.shut(room, other, 1), 0);
            }
        }
        Check.due("21 doors", all.count(1), 21);
        Check.due("all of 6", all.room(6, 3), 63);
    }

    private static void shutRefused() {
        Check.says("59", "-2: there are none such, one twice.");
        CallForBrown x = Check.told(HOUSE);
        String seen = Check.look(x);
        for (int is = 0; is <= 1; is++) {
            Check.due("shut(0, 3, " + is + ")", x.shut(0, 3, is), -2);
            Check.due("shut(3, 0, " + is + ")", x.shut(3, 0, is), -2);
            Check.due("shut(0, -1, " + is + ")", x.shut(0, -1, is), -2);
            Check.due("shut(-1, 0, " + is + ")", x.shut(-1, 0, is), -2);
            Check.due("shut(1, 1, " + is + ")", x.shut(1, 1, is), -2);
            Check.due("shut(3, 3, " + is + ")", x.shut(3, 3, is), -2);
            for (int far : FAR) {
                Check.due("shut(" + far + ", 0, " + is + ")", x.shut(far, 0, is), -2);
                Check.due("shut(0, " + far + ", " + is + ")", x.shut(0, far, is), -2);
                Check.due("shut(0, 1, " + far + ")", x.shut(0, 1, far), -2);
            }
        }
        Check.due("shut(0, 1, 2)", x.shut(0, 1, 2), -2);
        Check.due("shut(0, 2, -1)", x.shut(0, 2, -1), -2);
        Check.stays("shut of none such", x, seen);
        Check.due("without a HOUSE", new CallForBrown().shut(0, 1, 1), -2);
        Check.says("59", "-5 likewise");
        x.call(0);
        seen = Check.look(x);
        Check.due("none with a MINUTE", x.shut(0, 1, 0), -5);
        Check.due("one with a MINUTE", x.shut(0, 2, 1), -5);
        Check.due("as it is with a MINUTE", x.shut(0, 1, 1), -5);
        Check.due("-2 ahead of -5, one twice", x.shut(1, 1, 1), -2);
        Check.due("-2 ahead of -5, no such is", x.shut(0, 1, 2), -2);
        Check.stays("shut with a MINUTE", x, seen);
        x.undo();
        Check.due("taken back", x.shut(0, 1, 0), 1);
    }

    private static void count() {
        Check.says("60", "0 ROOMS, 1 doors, 2 MEN, 3 people of all ROOMS, 4 LINES, 5 bytes of the TAPE, "
                + "6 MINUTES that are not taken back, 7 SLOTS that have a row.");
        counts("none", new CallForBrown(), 0, 0, 0, 0, 0, 0, 0, 0);
        counts("without ROOMS and MEN", Check.told(FIRST), 0, 0, 0, 0, 1, 0, 0, 0);
        counts("full", full(), 7, 6, 6, 21, 20, 0, 0, 0);
        String most = "room people 999 hears 1 sits 1;";
        counts("people", Check.told(FIRST + most + most + most + most + most + most + most), 7, 0, 0, 6993, 8, 0, 0, 0);
        Check.says("60", "NONE for others.");
        CallForBrown x = full();
        for (int what : new int[] {-1, 8, Integer.MIN_VALUE, Integer.MAX_VALUE}) {
            Check.due("count(" + what + ")", x.count(what), -1);
            Check.due("count(" + what + ") without a HOUSE", new CallForBrown().count(what), -1);
        }
    }

    private static void counts(String name, CallForBrown x, int... due) {
        for (int what = 0; what < due.length; what++) {
            Check.due("count(" + what + ") of " + name, x.count(what), due[what]);
        }
    }

    private static void countMinutesAndSlots() {
        Check.says("60", "6 MINUTES that are not taken back, 7 SLOTS that have a row.");
        CallForBrown x = Check.told(HOUSE);
        x.call(0);
        x.call(-1);
        x.call(3);
        Check.due("two MINUTES, one refused", x.count(6), 2);
        x.undo();
        Check.due("one taken back", x.count(6), 1);
        x.anew();
        Check.due("all taken back", x.count(6), 0);
        for (int i = 0; i < 61; i++) {
            x.call(-1);
        }
        Check.due("sixty", x.count(6), 60);
        x.row(2, 0, 0);
        Check.due("an empty row", x.count(7), 1);
        x.row(2, 3, 60);
        Check.due("another in its place", x.count(7), 1);
        x.row(0, 0, -1);
        x.row(1, 0, 61);
        x.row(4, 0, 1);
        Check.due("none by refused ones", x.count(7), 1);
        x.row(0, 0, 1);
        x.row(1, 0, 1);
        x.row(3, 0, 1);
        Check.due("all four", x.count(7), 4);
        x.feed(1, 2, 3, 4, 5);
        Check.due("bytes", x.count(5), 20);
    }
}
