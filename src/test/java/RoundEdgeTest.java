import java.util.function.IntUnaryOperator;

/** The edges that promises 19 to 26 and 32 name, a sentence each. */
public final class RoundEdgeTest {
    /** 0 - 1 - 2, PARTS 400000, 200000, 200000, OUT 200000. */
    private static final String CHAIN = "house moves 50 here 80 worth 100 price 5;room people 10 hears 50 sits 2;"
            + "room people 20 hears 80 sits 1;room people 5 hears 25 sits 1;door 0 1;door 1 2;";
    private static final String EMPTY = "house moves 50 here 80 worth 100 price 5;";
    private static final int[] FAR = {Integer.MIN_VALUE, -2, 4, 256, Integer.MAX_VALUE};

    public static void main(String[] args) {
        round();
        roundOfNumbers();
        behind();
        disturbs();
        gain();
        stop();
        doubt();
        doubtRefused();
        walks();
        penny();
        hangs();
        nothingHappens();
        Check.finish();
    }

    private static String house(int worth, int price) {
        return "house moves 0 here 100 worth " + worth + " price " + price + ";";
    }

    private static String room(int people, int hears, int sits) {
        return "room people " + people + " hears " + hears + " sits " + sits + ";";
    }

    /** What round() refuses, and what is asked ahead of what, is alike for all that take a ROUND. */
    private static void refused(String name, CallForBrown x, CallForBrown none, IntUnaryOperator of,
            IntUnaryOperator without, int times) {
        for (int slot : FAR) {
            Check.due(name + " of SLOT " + slot, of.applyAsInt(slot), -2 * times);
            Check.due(name + " of SLOT " + slot + " without a HOUSE", without.applyAsInt(slot), -2 * times);
        }
        Check.due(name + " of SLOT -1", of.applyAsInt(-1), -2 * times);
        Check.due(name + " without a HOUSE, nothing", without.applyAsInt(0), -2 * times);
        none.row(1, 0, 1);
        Check.due(name + " without a HOUSE", without.applyAsInt(1), -2 * times);
        for (int slot = 0; slot <= 3; slot++) {
            Check.due(name + " of nothing in " + slot, of.applyAsInt(slot), -6 * times);
        }
        Check.row(x, 3, 0, 1, 3);
        Check.due(name + " of 3, no ROOM", of.applyAsInt(3), -2 * times);
        Check.row(x, 3, -2, 0, 1);
        Check.due(name + " of -2, not NONE", of.applyAsInt(3), -2 * times);
        Check.due(name + " of SLOT 2 yet", of.applyAsInt(2), -6 * times);
    }

    private static void round() {
        Check.says("19", "ROUND of a SLOT's row from now on: how much is FOUND in it.");
        CallForBrown x = Check.told(CHAIN);
        x.row(0, 0, 0);
        Check.due("an empty row", x.round(0), 0);
        Check.row(x, 3, -1);
        Check.due("NONE alone", x.round(3), 0);
        Check.row(x, 3, 2);
        Check.due("the last ROOM", x.round(3), 50000);
        CallForBrown all = Check.told(house(1, 1) + room(1, 100, 1));
        all.row(0, 0, 60);
        Check.due("sixty CALLS", all.round(0), 1000000);
        for (int i = 0; i < 60; i++) {
            x.call(-1);
        }
        Check.due("from now on, behind sixty MINUTES", x.round(3), x.parts(2) / 4);
        Check.says("19", "-2: there is no such SLOT, no HOUSE, a number is no ROOM, not NONE (asked last); -6: it has nothing.");
        CallForBrown y = Check.told(CHAIN);
        CallForBrown none = new CallForBrown();
        refused("round", y, none, y::round, none::round, 1);
    }

    private static void roundOfNumbers() {
        Check.says("19", "a number is no ROOM, not NONE (asked last)");
        CallForBrown x = Check.told(CHAIN);
        long[] numbers = {-1, 0, 2, 3, 6, -2, 127, -128, 255, 256, 258, 32767, 65535, 65536, 4294967295L, 4294967296L,
            4294967298L, Long.MIN_VALUE, Long.MAX_VALUE};
        int[][] due = {
            {0, 200000, 50000, -2, -2, -2, -2, -2, 0, 200000, 50000, 0, 0, 200000, 0, 200000, 50000, 200000, 0},
            {0, 200000, 50000, -2, -2, -2, -2, -2, -2, -2, -2, -2, 0, 200000, 0, 200000, 50000, 200000, 0},
            {0, 200000, 50000, -2, -2, -2, -2, -2, -2, -2, -2, -2, -2, -2, 0, 200000, 50000, 200000, 0},
            {0, 200000, 50000, -2, -2, -2, -2, -2, -2, -2, -2, -2, -2, -2, -2, -2, -2, -2, -2}};
        for (int width = 0; width <= 3; width++) {
            x.row(width, width, 1);
            for (int i = 0; i < numbers.length; i++) {
                x.write(width, 0, numbers[i]);
                Check.due("round of " + numbers[i] + " by WIDTH " + width, x.round(width), due[width][i]);
            }
        }
        CallForBrown empty = Check.told(EMPTY);
        empty.row(0, 0, 0);
        Check.due("an empty row without ROOMS", empty.round(0), 0);
        Check.row(empty, 0, -1, -1);
        Check.due("NONE without ROOMS", empty.round(0), 0);
        Check.row(empty, 0, 0);
        Check.due("0 without ROOMS", empty.round(0), -2);
        Check.row(x, 0, 0, 0, 0, 3);
        Check.due("the last number", x.round(0), -2);
        Check.row(x, 0, 3, 0, 0, 0);
        Check.due("the first number", x.round(0), -2);
    }

    private static void behind() {
        Check.says("20", "PARTS of a ROOM behind it.");
        CallForBrown x = Check.told(CHAIN);
        x.row(0, 0, 0);
        Check.due("behind no MINUTE", x.behind(0, 2), 200000);
        Check.row(x, 0, -1);
        Check.due("behind one", x.behind(0, 2), 150000);
        Check.says("20", "-2, -6 likewise, no such ROOM.");
        CallForBrown y = Check.told(CHAIN);
        CallForBrown none = new CallForBrown();
        refused("behind", y, none, s -> y.behind(s, 0), s -> none.behind(s, 0), 1);
        for (int room : new int[] {-1, -2, 3, 7, Integer.MIN_VALUE, Integer.MAX_VALUE}) {
            Check.due("behind(0, " + room + ")", x.behind(0, room), -2);
            Check.due("behind(1, " + room + ") of nothing", x.behind(1, room), -2);
        }
        CallForBrown empty = Check.told(EMPTY);
        empty.row(0, 0, 0);
        Check.due("without ROOMS", empty.behind(0, 0), -2);
    }

    private static void disturbs() {
        Check.says("21", "How many people CALLS of it disturb (each time).");
        CallForBrown x = Check.told(house(1, 1) + room(999, 0, 0) + room(0, 100, 1));
        x.row(0, 0, 60);
        Check.due("sixty times 999", x.disturbs(0), 59940);
        Check.row(x, 0, -1, -1);
        Check.due("no CALL", x.disturbs(0), 0);
        Check.row(x, 0, 1, 1);
        Check.due("nobody is there", x.disturbs(0), 0);
        x.row(0, 0, 0);
        Check.due("an empty row", x.disturbs(0), 0);
        Check.says("21", "-2, -6 likewise.");
        CallForBrown y = Check.told(CHAIN);
        CallForBrown none = new CallForBrown();
        refused("disturbs", y, none, y::disturbs, none::disturbs, 1);
    }

    private static void gain() {
        Check.says("22", "GAIN (III) of it.");
        CallForBrown x = Check.told(house(999, 0) + room(1, 100, 1));
        Check.row(x, 0, 0, 0);
        Check.due("the most", x.gain(0), 999);
        x.row(0, 0, 0);
        Check.due("an empty row", x.gain(0), 0);
        x.call(0);
        Check.row(x, 0, 0);
        Check.due("what was FOUND ahead counts for nothing", x.gain(0), 0);
        CallForBrown dear = Check.told(house(0, 999) + room(1, 100, 1));
        dear.row(0, 0, 60);
        Check.due("the least", dear.gain(0), -59940);
        Check.says("22", "-2,000,000, -6,000,000 for -2, -6.");
        CallForBrown y = Check.told(CHAIN);
        CallForBrown none = new CallForBrown();
        refused("gain", y, none, y::gain, none::gain, 1000000);
    }

    private static void stop(String text, int due, long... row) {
        CallForBrown x = Check.told(text);
        Check.row(x, 0, row);
        Check.due("stop(0) of " + text, x.stop(0), due);
    }

    private static void stop() {
        Check.says("23", "STOP: the MINUTES of it (0 .. all) behind which the GAIN of those is greatest, the fewest of several.");
        stop(house(999, 1) + room(1, 0, 1), 0, 0, 0, 0);
        stop(house(999, 0) + room(1, 0, 1), 0, 0, 0, 0);
        stop(house(999, 0) + room(1, 100, 1), 1, 0, 0, 0);
        stop(house(2, 1) + room(1, 50, 1), 0, 0);
        stop(house(4, 1) + room(1, 50, 1), 1, 0, 0, 0);
        stop(house(4, 1) + room(1, 100, 1), 3, -1, -1, 0);
        stop(house(3, 1) + room(1, 100, 1), 0, -1, -1, 0);
        stop(house(4, 1) + room(1, 100, 1), 3, -1, -1, 0, 0);
        // 5, 7, 8 less 1, 2, 3: 4, 5, 5.
        stop(house(10, 1) + room(1, 50, 1), 2, 0, 0, 0);
        CallForBrown full = Check.told(house(999, 0) + room(1, 100, 1));
        full.row(0, 0, 60);
        for (int i = 0; i < 59; i++) {
            full.write(0, i, -1);
        }
        Check.due("all sixty", full.stop(0), 60);
        full.row(0, 0, 0);
        Check.due("an empty row", full.stop(0), 0);
        CallForBrown begun = Check.told(house(999, 1) + room(1, 50, 1) + room(1, 0, 0));
        begun.call(0);
        Check.row(begun, 0, 1);
        Check.due("what was FOUND ahead counts for nothing", begun.stop(0), 0);
        Check.says("23", "-2, -6 likewise (as round()).");
        CallForBrown y = Check.told(CHAIN);
        CallForBrown none = new CallForBrown();
        refused("stop", y, none, y::stop, none::stop, 1);
    }

    private static void doubt() {
        Check.says("24", "DOUBT: the first MINUTE (from 0) of it ahead of which the chance that HE is in the house (as here()) "
                + "is below n (0 .. 1,000,000).");
        CallForBrown x = Check.told(CHAIN);
        Check.row(x, 0, 1, 0, -1);
        // 800000, 761904, 727891 ahead of them, 727891 behind.
        Check.due("as much is not below", x.doubt(0, 800000), 1);
        Check.due("one more is", x.doubt(0, 800001), 0);
        Check.due("as much ahead of 1", x.doubt(0, 761904), 2);
        Check.due("the most", x.doubt(0, 1000000), 0);
        CallForBrown all = Check.told(house(1, 1) + room(1, 100, 1));
        Check.row(all, 0, 0, 0);
        Check.due("a million is not below a million", all.doubt(0, 1000000), 1);
        Check.due("all is FOUND then", all.doubt(0, 1), 1);
        Check.due("nothing is below 0", all.doubt(0, 0), -1);
        Check.says("24", "NONE: none");
        Check.row(all, 0, 0);
        Check.due("behind the last it is not asked", all.doubt(0, 1), -1);
        Check.due("never", x.doubt(0, 727891), -1);
        Check.due("below 0", x.doubt(0, 0), -1);
        x.row(0, 0, 0);
        Check.due("an empty row", x.doubt(0, 1000000), -1);
    }

    private static void doubtRefused() {
        Check.says("24", "-2, -6 likewise, no such n.");
        CallForBrown y = Check.told(CHAIN);
        CallForBrown none = new CallForBrown();
        refused("doubt", y, none, s -> y.doubt(s, 0), s -> none.doubt(s, 0), 1);
        y.row(0, 0, 1);
        for (int n : new int[] {-1, 1000001, Integer.MIN_VALUE, Integer.MAX_VALUE}) {
            Check.due("doubt(0, " + n + ")", y.doubt(0, n), -2);
            Check.due("doubt(1, " + n + ") of nothing", y.doubt(1, n), -2);
        }
    }

    private static void walks() {
        Check.says("25", "Whether a BOY who stands in a ROOM can go so (NONE: he stays where he is, without a CALL): 1, 0.");
        CallForBrown x = Check.told(CHAIN);
        x.row(0, 0, 0);
        Check.due("an empty row", x.walks(0, 2), 1);
        Check.row(x, 0, -1, -1);
        Check.due("NONE alone", x.walks(0, 2), 1);
        Check.row(x, 0, 2);
        Check.due("he stays", x.walks(0, 2), 1);
        Check.due("by a door", x.walks(0, 1), 1);
        Check.due("two doors are too far at first", x.walks(0, 0), 0);
        Check.row(x, 0, -1, 2);
        Check.due("NONE leads nowhere", x.walks(0, 0), 0);
        Check.row(x, 0, 1, -1, -1, 0, 1, 2, 0);
        Check.due("the last is too far", x.walks(0, 0), 0);
        CallForBrown alone = Check.told(house(1, 1) + room(1, 1, 1) + room(1, 1, 1));
        Check.row(alone, 0, 0, 0);
        Check.due("no door", alone.walks(0, 1), 0);
        Check.due("no door is needed", alone.walks(0, 0), 1);
        Check.says("25", "-2, -6 likewise, no such ROOM.");
        CallForBrown y = Check.told(CHAIN);
        CallForBrown none = new CallForBrown();
        refused("walks", y, none, s -> y.walks(s, 0), s -> none.walks(s, 0), 1);
        for (int room : new int[] {-1, -2, 3, 7, Integer.MIN_VALUE, Integer.MAX_VALUE}) {
            Check.due("walks(0, " + room + ")", x.walks(0, room), -2);
            Check.due("walks(1, " + room + ") of nothing", x.walks(1, room), -2);
        }
        CallForBrown empty = Check.told(EMPTY);
        empty.row(0, 0, 0);
        Check.due("without ROOMS", empty.walks(0, 0), -2);
    }

    private static void penny(String text, int due, long... row) {
        CallForBrown x = Check.told(text);
        Check.row(x, 0, row);
        Check.due("penny(0) of " + text, x.penny(0), due);
    }

    private static void penny() {
        Check.says("26", "PENNY: the pence (0 .. 9) by which GAIN of it, less pence for each CALL, is greatest, the fewest of several.");
        penny(house(999, 999) + room(1, 0, 1), 9, 0);
        penny(house(999, 0) + room(1, 100, 1), 0, 0);
        penny(house(0, 0) + room(1, 0, 1), 0, 0);
        penny(house(999, 0) + room(1, 0, 1), 0, -1, -1);
        penny(house(999, 0) + room(1, 0, 1), 0);
        // 0, 1 - 1, 1 - 2, ..: as much by none as by one.
        penny(house(2, 0) + room(1, 0, 1), 0, 0);
        // 0, 2 - 1, 2 - 2, ..: more by one.
        penny(house(4, 0) + room(1, 0, 1), 1, 0);
        // 0, 50 - 1, 67 - 2, 75 - 3, 80 - 4, 84 - 5, 86 - 6, 88 - 7, 89 - 8: 81 by seven, 80 by six.
        penny(house(100, 0) + room(1, 0, 1), 7, 0);
        // Two CALLS: 75 - 2, 89 - 4, 93 - 6, 96 - 8, 97 - 10: 88 by four.
        penny(house(100, 0) + room(1, 0, 1), 4, 0, 0);
        // NONE costs no pence.
        penny(house(100, 0) + room(1, 0, 1), 7, 0, -1, -1);
        // A CALL where nobody is costs as much: 80 - 8, 84 - 10, 86 - 12, 88 - 14: 74 by five first.
        penny(house(100, 0) + room(1, 0, 1) + room(1, 0, 0), 5, 0, 1);
        Check.says("26", "-2, -6 likewise.");
        CallForBrown y = Check.told(CHAIN);
        CallForBrown none = new CallForBrown();
        refused("penny", y, none, y::penny, none::penny, 1);
    }

    private static void hangs(String text, int due, long... row) {
        CallForBrown x = Check.told(text);
        Check.row(x, 0, row);
        Check.due("hangs(0) of " + text, x.hangs(0), due);
    }

    private static void hangs() {
        Check.says("32", "in which worth times what is FOUND by a million, cut, is below price.");
        hangs(house(10, 5) + room(1, 50, 1), 1, 0, 0);
        hangs(house(10, 6) + room(1, 50, 1), 0, 0, 0);
        // 9.9 is cut to 9.
        hangs(house(10, 10) + room(1, 99, 1), 0, 0);
        hangs(house(10, 9) + room(1, 99, 1), -1, 0);
        hangs(house(10, 1) + room(1, 50, 1), 3, 0, 0, 0, 0);
        hangs(house(10, 1) + room(1, 100, 1), 0, -1, 0);
        hangs(house(0, 1) + room(1, 100, 1), 0, 0);
        Check.says("32", "NONE: none");
        hangs(house(0, 0) + room(1, 100, 1), -1, 0, -1, 0);
        hangs(house(10, 5) + room(1, 50, 1), -1, 0);
        hangs(house(10, 5) + room(1, 50, 1), -1);
        CallForBrown full = Check.told(house(0, 0) + room(1, 1, 1));
        full.row(0, 0, 60);
        Check.due("sixty", full.hangs(0), -1);
        Check.says("32", "-2, -6 as round().");
        CallForBrown y = Check.told(CHAIN);
        CallForBrown none = new CallForBrown();
        refused("hangs", y, none, y::hangs, none::hangs, 1);
    }

    private static void nothingHappens() {
        Check.says("19", "ROUND of a SLOT's row from now on");
        CallForBrown x = Check.told(CHAIN);
        x.call(0);
        Check.row(x, 0, 1, 0, -1, 2);
        Check.row(x, 1, 1, 3);
        String seen = Check.look(x);
        for (int slot = -1; slot <= 4; slot++) {
            x.round(slot);
            x.behind(slot, 1);
            x.disturbs(slot);
            x.gain(slot);
            x.stop(slot);
            x.doubt(slot, 5);
            x.walks(slot, 1);
            x.penny(slot);
            x.hangs(slot);
        }
        Check.stays("all that ask about a ROUND", x, seen);
    }
}
