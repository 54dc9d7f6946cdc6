/** Promises 53 to 57: habits, and EVENINGS drawn. */
public final class EveningTest {
    /** 0 - 1 - 2. */
    private static final String CHAIN = "house moves 50 here 80 worth 100 price 5;room people 10 hears 50 sits 2;"
            + "room people 20 hears 80 sits 1;room people 5 hears 25 sits 1;door 0 1;door 1 2;";

    public static void main(String[] args) {
        habits();
        periods();
        habitCodes();
        drawn();
        notHere();
        lots();
        drawnCodes();
        Check.finish();
    }

    private static void habits() {
        CallForBrown x = Check.told(CHAIN);
        Check.row(x, 0, 1, 0, 1, 2, 1);
        Check.due("habit(0)", x.habit(0), 1);
        Check.due("follows(0, 1), the least of several", x.follows(0, 1), 0);
        Check.due("follows(0, 0)", x.follows(0, 0), 1);
        Check.due("follows(0, 2)", x.follows(0, 2), 1);
        Check.row(x, 0, 2, 1, 1, 2, 0);
        Check.due("habit(0), the least of several", x.habit(0), 1);
        Check.due("follows(0, 0), the last one", x.follows(0, 0), -1);
        Check.row(x, 0, 0, 2, 0, 1, 0, 2, 2);
        Check.due("most often", x.follows(0, 0), 2);
        Check.due("behind itself", x.follows(0, 2), 0);
        x.row(0, 0, 0);
        Check.due("habit of nothing", x.habit(0), -1);
        Check.due("follows of nothing", x.follows(0, 0), -1);
        Check.due("period of nothing", x.period(0), -1);
    }

    private static void period(CallForBrown x, int due, long... row) {
        Check.row(x, 0, row);
        Check.due("period of " + java.util.Arrays.toString(row), x.period(0), due);
    }

    private static void periods() {
        CallForBrown x = Check.told(CHAIN);
        period(x, 1, 2);
        period(x, 1, 2, 2, 2);
        period(x, 2, 0, 1, 0, 1, 0);
        period(x, 3, 0, 1, 2);
        period(x, 3, 0, 0, 1, 0);
        period(x, 4, 1, 0, 1, 2, 1);
        period(x, 4, 0, 1, 1, 1);
        period(x, 5, 0, 1, 0, 1, 1);
    }

    private static void habitCodes() {
        CallForBrown x = Check.told(CHAIN);
        habitCode("nothing", x, 0, -6);
        habitCode("no slot", x, 4, -2);
        habitCode("no slot", x, -1, -2);
        habitCode("no house", new CallForBrown(), 0, -2);
        Check.due("no room, nothing", x.follows(0, 3), -2);
        Check.row(x, 0, 0, -1);
        habitCode("NONE is no room", x, 0, -2);
        Check.row(x, 0, 0, 3);
        habitCode("3 is no room", x, 0, -2);
        Check.row(x, 0, 0, 1);
        Check.due("follows(0, 3)", x.follows(0, 3), -2);
        Check.due("follows(0, -1)", x.follows(0, -1), -2);
    }

    private static void habitCode(String why, CallForBrown x, int slot, int code) {
        Check.due(why + " habit", x.habit(slot), code);
        Check.due(why + " follows", x.follows(slot, 0), code);
        Check.due(why + " period", x.period(slot), code);
    }

    private static void evening(CallForBrown x, int seed, int minute, int room) {
        Check.due("drawn(" + seed + ", 0, 0)", x.drawn(seed, 0, 0), minute);
        Check.due("drawn(" + seed + ", 0, 1)", x.drawn(seed, 0, 1), room);
    }

    private static void drawn() {
        CallForBrown x = Check.told(CHAIN);
        Check.row(x, 0, 1, 0, -1);
        // x / 65536: 0, 21468, 9988, 22117: he sits in 0, stays (88), is heard there (17).
        evening(x, 0, 1, 0);
        // 16838, 5758, 10113: 2 of 4 seats is in 1, heard (13).
        evening(x, 1, 0, 1);
        // 908, 22817, 10239, 12914, 25837, 27095, 29976: in 0, goes (39) to 1, goes (37) by the second door, stays.
        evening(x, 2, -1, 2);
        // 17747, 7107, 10365, 8312, 20622, 15796: in 2, stays (65), goes (12) to 1, stays (96).
        evening(x, 3, -1, 1);
        // 3304, 7133, 3221, 19807, 6926, 6792, 5557: in 0, goes (21) to 1, goes (26) by the first door, stays (57).
        evening(x, 2000000000, -1, 0);
        x.call(1);
        evening(x, 1, 0, 1);
        Check.row(x, 0, 0, 0);
        // 9988: not heard (88); 22117, 3498: goes (17) to 1; 16927, 16045: goes (27) by the second door.
        evening(x, 0, -1, 2);
        x.row(0, 0, 0);
        evening(x, 1, -1, 1);
        aloneInARoom();
        movesOrNot();
    }

    /** The third draw of seed 0 is 88. */
    private static void movesOrNot() {
        String rooms = " here 80 worth 1 price 1;room people 0 hears 0 sits 4;room people 0 hears 0 sits 0;door 0 1;";
        CallForBrown stays = Check.told("house moves 88" + rooms);
        Check.row(stays, 0, -1);
        evening(stays, 0, -1, 0);
        CallForBrown goes = Check.told("house moves 89" + rooms);
        Check.row(goes, 0, -1);
        evening(goes, 0, -1, 1);
    }

    /** Without doors nothing is drawn for going: 9988, 22117 are both CALLS. */
    private static void aloneInARoom() {
        CallForBrown x = Check.told("house moves 50 here 80 worth 1 price 1;room people 0 hears 18 sits 2;");
        Check.row(x, 0, 0, 0);
        evening(x, 0, 1, 0);
        x.tell(0, 1, 17);
        // 88, 17, not below 17.
        evening(x, 0, -1, 0);
    }

    private static void notHere() {
        String rooms = " worth 1 price 1;room people 0 hears 100 sits 1;";
        CallForBrown out = Check.told("house moves 0 here 38" + rooms);
        Check.row(out, 0, 0);
        evening(out, 1, -1, -1);
        CallForBrown in = Check.told("house moves 0 here 39" + rooms);
        Check.row(in, 0, 0);
        evening(in, 1, 0, 0);
        CallForBrown seatless = Check.told("house moves 0 here 100 worth 1 price 1;room people 0 hears 100 sits 0;");
        Check.row(seatless, 0, 0);
        evening(seatless, 1, -1, -1);
        CallForBrown empty = Check.told("house moves 0 here 100 worth 1 price 1;");
        Check.row(empty, 0, -1);
        evening(empty, 1, -1, -1);
    }

    private static void lots() {
        CallForBrown x = Check.told(CHAIN);
        Check.row(x, 0, 1, 0, -1);
        Check.due("lot(0, 0, 1)", x.lot(0, 0, 1), 1);
        Check.due("lot(0, 0, 4)", x.lot(0, 0, 4), 2);
        Check.due("lot(2, 0, 2)", x.lot(2, 0, 2), 0);
        int sum = 0;
        for (int seed = 7; seed < 27; seed++) {
            sum += x.drawn(seed, 0, 0) != -1 ? 1 : 0;
        }
        Check.due("lot(7, 0, 20)", x.lot(7, 0, 20), sum);
        CallForBrown sure = Check.told("house moves 0 here 100 worth 1 price 1;room people 0 hears 100 sits 1;");
        Check.row(sure, 0, 0);
        Check.due("beyond the last seed", sure.lot(2000000000, 0, 20), 20);
    }

    private static void drawnCodes() {
        CallForBrown x = Check.told(CHAIN);
        drawnCode("nothing", x, 0, -6);
        drawnCode("no slot", x, 4, -2);
        drawnCode("no slot", x, -1, -2);
        drawnCode("no house", new CallForBrown(), 0, -2);
        Check.due("no seed, nothing", x.drawn(-1, 0, 0), -2);
        Check.due("no n, nothing", x.lot(0, 0, 0), -2);
        Check.row(x, 0, 0, 3);
        drawnCode("no room", x, 0, -2);
        Check.row(x, 0, 0);
        Check.due("seed -1", x.drawn(-1, 0, 0), -2);
        Check.due("seed 2000000001", x.drawn(2000000001, 0, 0), -2);
        Check.due("what 2", x.drawn(0, 0, 2), -2);
        Check.due("what -1", x.drawn(0, 0, -1), -2);
        Check.due("lot n 0", x.lot(0, 0, 0), -2);
        Check.due("lot n 21", x.lot(0, 0, 21), -2);
        Check.due("lot seed -1", x.lot(-1, 0, 1), -2);
        Check.due("lot seed 2000000001", x.lot(2000000001, 0, 1), -2);
    }

    private static void drawnCode(String why, CallForBrown x, int slot, int code) {
        Check.due(why + " drawn", x.drawn(0, slot, 0), code);
        Check.due(why + " lot", x.lot(0, slot, 1), code);
    }
}
