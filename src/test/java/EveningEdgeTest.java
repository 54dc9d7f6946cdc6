import java.util.function.IntUnaryOperator;

/** The edges that promises 53 to 57 name, a sentence each. */
public final class EveningEdgeTest {
    /** 0 - 1 - 2. */
    private static final String CHAIN = "house moves 50 here 80 worth 100 price 5;room people 10 hears 50 sits 2;"
            + "room people 20 hears 80 sits 1;room people 5 hears 25 sits 1;door 0 1;door 1 2;";
    private static final String EMPTY = "house moves 50 here 80 worth 100 price 5;";
    private static final String SURE = "house moves 0 here 100 worth 1 price 1;room people 0 hears 100 sits 1;";
    private static final int[] NO_SLOTS = {-1, 4, Integer.MIN_VALUE, Integer.MAX_VALUE};
    private static final int[] NO_ROOMS = {-1, -2, 3, 7, Integer.MIN_VALUE, Integer.MAX_VALUE};

    public static void main(String[] args) {
        habit();
        follows();
        period();
        drawn();
        drawnAtLast();
        drawnRefused();
        lot();
        lotRefused();
        nothingHappens();
        Check.finish();
    }

    /** What a SLOT's row is refused for; least is the least number that can stand in it. */
    private static void refused(String name, CallForBrown x, IntUnaryOperator of, CallForBrown none,
            IntUnaryOperator without, int least) {
        for (int slot : NO_SLOTS) {
            Check.due(name + " of SLOT " + slot, of.applyAsInt(slot), -2);
            Check.due(name + " of SLOT " + slot + " without a HOUSE", without.applyAsInt(slot), -2);
        }
        for (int slot = 0; slot <= 3; slot++) {
            Check.due(name + " of nothing in " + slot, of.applyAsInt(slot), -6);
            Check.due(name + " of nothing in " + slot + " without a HOUSE", without.applyAsInt(slot), -2);
        }
        none.row(0, 0, 1);
        Check.due(name + " without a HOUSE", without.applyAsInt(0), -2);
        Check.row(x, 3, 0, 2, 3);
        Check.due(name + " of 3, no ROOM", of.applyAsInt(3), -2);
        Check.row(x, 3, least - 1, 0);
        Check.due(name + " of " + (least - 1), of.applyAsInt(3), -2);
        x.row(3, 3, 1);
        x.write(3, 0, 4294967296L);
        Check.due(name + " of eight bytes", of.applyAsInt(3), -2);
        x.row(3, 0, 0);
        Check.due(name + " of nothing in 0 yet", of.applyAsInt(0), -6);
    }

    private static void habit(CallForBrown x, int due, long... row) {
        Check.row(x, 0, row);
        Check.due("habit(0)", x.habit(0), due);
    }

    private static void habit() {
        Check.says("53", "that which is most often there, the least of several.");
        CallForBrown x = Check.told(CHAIN);
        habit(x, 2, 2);
        habit(x, 2, 0, 2, 1, 2);
        habit(x, 0, 2, 1, 0);
        habit(x, 1, 2, 1, 0, 2, 1);
        x.row(0, 0, 60);
        Check.due("sixty", x.habit(0), 0);
        for (int i = 0; i < 30; i++) {
            x.write(0, i, 2);
        }
        Check.due("thirty each", x.habit(0), 0);
        x.write(0, 59, 2);
        Check.due("one more", x.habit(0), 2);
        Check.says("53", "NONE: it is empty");
        x.row(0, 0, 0);
        Check.due("empty", x.habit(0), -1);
        CallForBrown empty = Check.told(EMPTY);
        empty.row(0, 0, 0);
        Check.due("empty without ROOMS", empty.habit(0), -1);
        Check.says("53", "-2: there is no such SLOT, no HOUSE, a number is no ROOM (asked last); -6: it has nothing.");
        CallForBrown y = Check.told(CHAIN);
        CallForBrown none = new CallForBrown();
        refused("habit", y, y::habit, none, none::habit, 0);
        empty.row(0, 0, 1);
        Check.due("0 without ROOMS", empty.habit(0), -2);
    }

    private static void follows() {
        Check.says("54", "The ROOM that most often came the evening behind a ROOM, the least of several.");
        CallForBrown x = Check.told(CHAIN);
        Check.row(x, 0, 1, 2, 1, 0, 1, 2, 2);
        Check.due("follows(0, 1)", x.follows(0, 1), 2);
        Check.due("follows(0, 0)", x.follows(0, 0), 1);
        Check.due("follows(0, 2), the least", x.follows(0, 2), 1);
        Check.row(x, 0, 1, 1, 1, 0);
        Check.due("behind itself", x.follows(0, 1), 1);
        Check.says("54", "NONE: none did");
        Check.due("the last has none behind it", x.follows(0, 0), -1);
        Check.due("it is not there", x.follows(0, 2), -1);
        Check.row(x, 0, 1);
        Check.due("one evening", x.follows(0, 1), -1);
        x.row(0, 0, 0);
        Check.due("empty", x.follows(0, 1), -1);
        Check.says("54", "-2, -6 likewise, no such ROOM.");
        CallForBrown y = Check.told(CHAIN);
        CallForBrown none = new CallForBrown();
        refused("follows", y, s -> y.follows(s, 0), none, s -> none.follows(s, 0), 0);
        for (int room : NO_ROOMS) {
            Check.due("follows(0, " + room + ")", x.follows(0, room), -2);
            Check.due("follows(1, " + room + ") of nothing", x.follows(1, room), -2);
        }
        CallForBrown empty = Check.told(EMPTY);
        empty.row(0, 0, 0);
        Check.due("without ROOMS", empty.follows(0, 0), -2);
    }

    private static void period(CallForBrown x, int due, long... row) {
        Check.row(x, 0, row);
        Check.due("period(0) of " + java.util.Arrays.toString(row), x.period(0), due);
    }

    private static void period() {
        Check.says("55", "The fewest evenings (1 and above) behind which it comes again so, as far as it is told.");
        CallForBrown x = Check.told(CHAIN);
        period(x, 1, 2);
        period(x, 1, 0, 0);
        period(x, 2, 0, 1);
        period(x, 2, 0, 1, 0);
        period(x, 3, 0, 0, 1, 0, 0, 1, 0);
        period(x, 4, 0, 0, 1, 1);
        period(x, 3, 0, 1, 1, 0);
        x.row(0, 0, 60);
        Check.due("sixty", x.period(0), 1);
        x.write(0, 59, 1);
        Check.due("all sixty", x.period(0), 60);
        x.write(0, 0, 1);
        Check.due("the last as the first", x.period(0), 59);
        x.write(0, 30, 1);
        Check.due("not by 30", x.period(0), 59);
        x.write(0, 59, 0);
        Check.due("by 30", x.period(0), 30);
        Check.says("55", "NONE: it is empty; -2, -6 likewise.");
        x.row(0, 0, 0);
        Check.due("empty", x.period(0), -1);
        CallForBrown y = Check.told(CHAIN);
        CallForBrown none = new CallForBrown();
        refused("period", y, y::period, none, none::period, 0);
    }

    private static void drawn() {
        Check.says("56", "what 0: the MINUTE in which HE is FOUND (NONE)");
        CallForBrown x = Check.told(SURE);
        Check.row(x, 0, 0);
        for (int seed : new int[] {0, 1, 1000000000, 1999999999, 2000000000}) {
            Check.due("drawn(" + seed + ", 0, 0)", x.drawn(seed, 0, 0), 0);
            Check.due("drawn(" + seed + ", 0, 1)", x.drawn(seed, 0, 1), 0);
        }
        x.row(0, 0, 60);
        for (int i = 0; i < 59; i++) {
            x.write(0, i, -1);
        }
        Check.due("in the last of sixty", x.drawn(1, 0, 0), 59);
        x.write(0, 59, -1);
        Check.due("never", x.drawn(1, 0, 0), -1);
        x.row(0, 0, 0);
        Check.due("an empty row", x.drawn(1, 0, 0), -1);
        x.call(0);
        Check.row(x, 0, 0);
        Check.due("MINUTES made don't count", x.drawn(1, 0, 0), 0);
    }

    private static void drawnAtLast() {
        Check.says("56", "1: the ROOM in which HE is at last, or was FOUND (NONE: OUT).");
        CallForBrown x = Check.told(SURE);
        x.row(0, 0, 0);
        Check.due("where HE sat", x.drawn(1, 0, 1), 0);
        CallForBrown fro = Check.told("house moves 100 here 100 worth 1 price 1;room people 0 hears 0 sits 1;"
                + "room people 0 hears 100 sits 0;door 0 1;");
        Check.row(fro, 0, -1);
        Check.due("behind one MINUTE", fro.drawn(1, 0, 1), 1);
        Check.row(fro, 0, -1, -1);
        Check.due("behind two", fro.drawn(1, 0, 1), 0);
        Check.row(fro, 0, 1, 1, -1, -1, -1);
        Check.due("was FOUND", fro.drawn(1, 0, 1), 1);
        Check.due("in MINUTE 1", fro.drawn(1, 0, 0), 1);
        CallForBrown out = Check.told("house moves 100 here 0 worth 1 price 1;room people 0 hears 100 sits 1;");
        Check.row(out, 0, 0, -1);
        Check.due("OUT", out.drawn(1, 0, 1), -1);
        Check.due("OUT is not FOUND, by NONE either", out.drawn(1, 0, 0), -1);
        CallForBrown empty = Check.told(EMPTY);
        Check.row(empty, 0, -1);
        Check.due("without ROOMS", empty.drawn(0, 0, 1), -1);
        Check.due("nor FOUND", empty.drawn(0, 0, 0), -1);
    }

    private static void drawnRefused() {
        Check.says("56", "-2, -6 as round(), no such seed, what.");
        CallForBrown y = Check.told(CHAIN);
        CallForBrown none = new CallForBrown();
        refused("drawn", y, s -> y.drawn(0, s, 0), none, s -> none.drawn(0, s, 0), -1);
        CallForBrown x = Check.told(SURE);
        x.row(0, 0, 1);
        for (int what = 0; what <= 1; what++) {
            for (int seed : new int[] {-1, 2000000001, Integer.MIN_VALUE, Integer.MAX_VALUE}) {
                Check.due("drawn(" + seed + ", 0, " + what + ")", x.drawn(seed, 0, what), -2);
                Check.due("drawn(" + seed + ", 1, " + what + ") of nothing", x.drawn(seed, 1, what), -2);
            }
        }
        for (int what : new int[] {-1, 2, Integer.MIN_VALUE, Integer.MAX_VALUE}) {
            Check.due("drawn(0, 0, " + what + ")", x.drawn(0, 0, what), -2);
            Check.due("drawn(0, 1, " + what + ") of nothing", x.drawn(0, 1, what), -2);
        }
    }

    private static void lot() {
        Check.says("57", "Of n (1 .. 20) such from seeds, the seed and 1, .., in how many HE is FOUND.");
        CallForBrown x = Check.told(SURE);
        Check.row(x, 0, 0);
        Check.due("of one", x.lot(0, 0, 1), 1);
        Check.due("of twenty", x.lot(0, 0, 20), 20);
        Check.due("from the last seed", x.lot(2000000000, 0, 20), 20);
        x.row(0, 0, 0);
        Check.due("an empty row", x.lot(0, 0, 20), 0);
        // The first draws of seeds 0 .. 3 are 0, 38, 8, 47.
        CallForBrown some = Check.told("house moves 0 here 38 worth 1 price 1;room people 0 hears 100 sits 1;");
        Check.row(some, 0, 0);
        int[] due = {1, 1, 2, 2};
        for (int n = 1; n <= 4; n++) {
            Check.due("lot(0, 0, " + n + ")", some.lot(0, 0, n), due[n - 1]);
        }
        Check.due("lot(1, 0, 1)", some.lot(1, 0, 1), 0);
        Check.due("lot(1, 0, 2)", some.lot(1, 0, 2), 1);
        int sum = some.drawn(1999999999, 0, 0) == 0 ? 1 : 0;
        sum += some.drawn(2000000000, 0, 0) == 0 ? 1 : 0;
        Check.due("lot(1999999999, 0, 2)", some.lot(1999999999, 0, 2), sum);
    }

    private static void lotRefused() {
        Check.says("57", "-2, -6 likewise, no such n.");
        CallForBrown y = Check.told(CHAIN);
        CallForBrown none = new CallForBrown();
        refused("lot", y, s -> y.lot(0, s, 1), none, s -> none.lot(0, s, 1), -1);
        CallForBrown x = Check.told(SURE);
        x.row(0, 0, 1);
        for (int n : new int[] {0, 21, -1, Integer.MIN_VALUE, Integer.MAX_VALUE}) {
            Check.due("lot(0, 0, " + n + ")", x.lot(0, 0, n), -2);
            Check.due("lot(0, 1, " + n + ") of nothing", x.lot(0, 1, n), -2);
        }
        for (int seed : new int[] {-1, 2000000001, Integer.MIN_VALUE, Integer.MAX_VALUE}) {
            Check.due("lot(" + seed + ", 0, 1)", x.lot(seed, 0, 1), -2);
            Check.due("lot(" + seed + ", 1, 1) of nothing", x.lot(seed, 1, 1), -2);
        }
    }

    private static void nothingHappens() {
        Check.says("56", "An EVENING drawn (VI) from a seed (0 .. 2,000,000,000) with a SLOT's row as ROUND");
        CallForBrown x = Check.told(CHAIN);
        x.call(0);
        Check.row(x, 0, 1, 0, 2);
        String seen = Check.look(x);
        int first = x.drawn(2, 0, 1);
        for (int slot = -1; slot <= 4; slot++) {
            x.habit(slot);
            x.follows(slot, 0);
            x.period(slot);
            x.drawn(7, slot, 0);
            x.lot(9, slot, 3);
        }
        Check.stays("habits and EVENINGS", x, seen);
        Check.due("an EVENING is the same again", x.drawn(2, 0, 1), first);
    }
}
