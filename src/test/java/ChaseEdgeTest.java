/** The edges that promises 39 to 44 name, a sentence each. */
public final class ChaseEdgeTest {
    private static final String FIRST = "house moves 50 here 80 worth 1 price 1;";
    private static final int[] FAR = {Integer.MIN_VALUE, -2, -1, 7, Integer.MAX_VALUE};

    public static void main(String[] args) {
        one();
        two();
        twoRefused();
        way();
        wayFirst();
        wayOfMany();
        wayRefused();
        slips();
        slipsRefused();
        boys();
        pairs();
        nothingHappens();
        Check.finish();
    }

    private static CallForBrown rooms(int n, int... doors) {
        StringBuilder text = new StringBuilder(FIRST);
        for (int i = 0; i < n; i++) {
            text.append("room people 0 hears 50 sits 1;");
        }
        for (int i = 0; i + 1 < doors.length; i += 2) {
            text.append("door ").append(doors[i]).append(' ').append(doors[i + 1]).append(';');
        }
        return Check.told(text.toString());
    }

    private static CallForBrown path() {
        return rooms(7, 0, 1, 1, 2, 2, 3, 3, 4, 4, 5, 5, 6);
    }

    private static void one() {
        Check.says("39", "the fewest MINUTES in which one boy who stands in a ROOM can CLEAR the house.");
        Check.due("one ROOM is CLEAR at once", rooms(1).one(0), 0);
        Check.says("39", "NONE: he can't; -2: there is none such.");
        Check.due("HE slips by", rooms(2, 0, 1).one(1), -1);
        Check.due("HE is in the other", rooms(2).one(0), -1);
        CallForBrown x = path();
        Check.due("one(6)", x.one(6), -1);
        for (int far : FAR) {
            Check.due("one(" + far + ")", x.one(far), -2);
        }
        Check.due("one(1) of one ROOM", rooms(1).one(1), -2);
        Check.due("without ROOMS", rooms(0).one(0), -2);
        Check.due("without a HOUSE", new CallForBrown().one(0), -2);
    }

    /** Side by side they drive HIM along a row of ROOMS. */
    private static void two() {
        Check.says("40", "Likewise of two boys (perhaps in one ROOM).");
        Check.due("one ROOM", rooms(1).two(0, 0), 0);
        Check.due("a boy in each", rooms(2).two(0, 1), 0);
        Check.due("a boy in each, the other way", rooms(2).two(1, 0), 0);
        Check.due("both in one", rooms(2, 0, 1).two(1, 1), 1);
        CallForBrown x = path();
        Check.due("two(0, 1)", x.two(0, 1), 5);
        Check.due("two(0, 0)", x.two(0, 0), 6);
        Check.due("two(6, 6)", x.two(6, 6), 6);
        Check.due("two(1, 0)", x.two(1, 0), 5);
        Check.due("two(3, 3), first to an end", x.two(3, 3), 8);
        Check.due("two(0, 6)", x.two(0, 6), 10);
    }

    private static void twoRefused() {
        Check.says("40", "NONE, -2 likewise.");
        CallForBrown x = path();
        Check.due("a ring of three", rooms(3, 0, 1, 1, 2, 2, 0).two(0, 1), -1);
        Check.due("both in one of two apart", rooms(2).two(0, 0), -1);
        Check.due("three apart", rooms(3).two(0, 1), -1);
        for (int far : FAR) {
            Check.due("two(" + far + ", 0)", x.two(far, 0), -2);
            Check.due("two(0, " + far + ")", x.two(0, far), -2);
            Check.due("two(" + far + ", itself)", x.two(far, far), -2);
        }
        Check.due("two(0, 1) of one ROOM", rooms(1).two(0, 1), -2);
        Check.due("without ROOMS", rooms(0).two(0, 0), -2);
        Check.due("without a HOUSE", new CallForBrown().two(0, 0), -2);
    }

    private static void way() {
        Check.says("41", "Where boy 0, 1 is behind MINUTE i (from 0) of a shortest such");
        CallForBrown x = path();
        for (int i = 0; i < 5; i++) {
            Check.due("way(0, 1, 0, " + i + ")", x.way(0, 1, 0, i), i + 1);
            Check.due("way(0, 1, 1, " + i + ")", x.way(0, 1, 1, i), i + 2);
        }
        Check.says("41", "NONE: there is none such");
        Check.due("behind the last", x.way(0, 1, 0, 5), -1);
        Check.due("behind the last, the second", x.way(0, 1, 1, 5), -1);
        Check.due("ahead of the first", x.way(0, 1, 0, -1), -1);
        Check.due("far behind", x.way(0, 1, 0, Integer.MAX_VALUE), -1);
        Check.due("far ahead", x.way(0, 1, 0, Integer.MIN_VALUE), -1);
        Check.due("no MINUTE is needed", rooms(2).way(0, 1, 0, 0), -1);
        CallForBrown ring = rooms(3, 0, 1, 1, 2, 2, 0);
        Check.due("they can't", ring.way(0, 1, 0, 0), -1);
        Check.due("they can't, the second", ring.way(0, 1, 1, 0), -1);
    }

    private static void wayFirst() {
        Check.says("41", "the first by rows of 10 times the first one's ROOM and the second one's.");
        CallForBrown pair = rooms(2, 0, 1);
        // 01 and 10 both CLEAR it.
        Check.due("the first one stays in 0", pair.way(0, 0, 0, 0), 0);
        Check.due("the second one goes", pair.way(0, 0, 1, 0), 1);
        Check.due("from 1 the first one goes", pair.way(1, 1, 0, 0), 0);
        Check.due("from 1 the second one stays", pair.way(1, 1, 1, 0), 1);
        CallForBrown x = path();
        // Both ends are as near: they go to 0 and 1, and along from there.
        int[] first = {2, 1, 0, 1, 2, 3, 4, 5};
        int[] second = {2, 1, 1, 2, 3, 4, 5, 6};
        for (int i = 0; i < 8; i++) {
            Check.due("way(3, 3, 0, " + i + ")", x.way(3, 3, 0, i), first[i]);
            Check.due("way(3, 3, 1, " + i + ")", x.way(3, 3, 1, i), second[i]);
        }
        CallForBrown three = rooms(3, 0, 1, 1, 2);
        // From 2 and 1 the end of 0 is CLEAR behind 1 0.
        Check.due("way(2, 1, 0, 0)", three.way(2, 1, 0, 0), 1);
        Check.due("way(2, 1, 1, 0)", three.way(2, 1, 1, 0), 0);
        // From 1 and 2 it is 0 1.
        Check.due("way(1, 2, 0, 0)", three.way(1, 2, 0, 0), 0);
        Check.due("way(1, 2, 1, 0)", three.way(1, 2, 1, 0), 1);
    }

    /** Six ROOMS about one: one boy stands in it, the other CLEARS one each MINUTE; most can be where most differ. */
    private static void wayOfMany() {
        Check.says("41", "the first by rows of 10 times the first one's ROOM and the second one's.");
        CallForBrown x = rooms(7, 0, 1, 0, 2, 0, 3, 0, 4, 0, 5, 0, 6);
        Check.due("two(0, 0)", x.two(0, 0), 6);
        Check.due("two(0, 1)", x.two(0, 1), 5);
        int[] first = {0, 2, 0, 4, 0, 6, -1};
        int[] second = {1, 0, 3, 0, 5, 0, -1};
        for (int i = 0; i < 7; i++) {
            Check.due("way(0, 0, 0, " + i + ")", x.way(0, 0, 0, i), first[i]);
            Check.due("way(0, 0, 1, " + i + ")", x.way(0, 0, 1, i), second[i]);
        }
        Check.due("pairs()", x.pairs(), 28);
    }

    private static void wayRefused() {
        Check.says("41", "-2 likewise, no such boy.");
        CallForBrown x = path();
        CallForBrown ring = rooms(3, 0, 1, 1, 2, 2, 0);
        for (int boy : new int[] {-1, 2, Integer.MIN_VALUE, Integer.MAX_VALUE}) {
            Check.due("boy " + boy, x.way(0, 1, boy, 0), -2);
            Check.due("boy " + boy + " ahead of NONE", x.way(0, 1, boy, 99), -2);
            Check.due("boy " + boy + " where they can't", ring.way(0, 1, boy, 0), -2);
        }
        for (int far : FAR) {
            Check.due("way(" + far + ", 0, 0, 0)", x.way(far, 0, 0, 0), -2);
            Check.due("way(0, " + far + ", 0, 0)", x.way(0, far, 0, 0), -2);
            Check.due("way(0, " + far + ", 1, -1)", x.way(0, far, 1, -1), -2);
        }
        Check.due("way(0, 3, 0, 0) of three", ring.way(0, 3, 0, 0), -2);
        Check.due("without ROOMS", rooms(0).way(0, 0, 0, 0), -2);
        Check.due("without a HOUSE", new CallForBrown().way(0, 0, 0, 0), -2);
    }

    private static void slips() {
        Check.says("42", "SLIPS: ROOMS in which HE can be behind a SLOT's row as the way of one boy who stands in a ROOM "
                + "(NONE: he stays), as bits.");
        CallForBrown x = path();
        x.row(0, 0, 0);
        Check.due("at first", x.slips(0, 0), 126);
        Check.due("at first from 6", x.slips(0, 6), 63);
        Check.row(x, 0, -1, -1);
        Check.due("he stays in 3", x.slips(0, 3), 119);
        Check.row(x, 0, 1, 2, 3, 4, 5, 6);
        Check.due("HE slips by", x.slips(0, 0), 63);
        CallForBrown one = rooms(1);
        one.row(0, 0, 60);
        Check.due("in no ROOM", one.slips(0, 0), 0);
        CallForBrown apart = rooms(3, 0, 1);
        Check.row(apart, 0, 1, 0, -1, 1);
        Check.due("HE is in 2 too", apart.slips(0, 0), 5);
    }

    private static void slipsRefused() {
        Check.says("42", "-2, -6 as round(), no such ROOM; -5 (behind these): he can't go so.");
        CallForBrown x = rooms(3, 0, 1, 1, 2);
        Check.row(x, 0, 2);
        Check.due("he can't go so", x.slips(0, 0), -5);
        Check.row(x, 0, -1, 1, 0, 2);
        Check.due("nor at last", x.slips(0, 0), -5);
        Check.row(x, 0, 2, 3);
        Check.due("a number is no ROOM, ahead of -5", x.slips(0, 0), -2);
        Check.row(x, 0, 2, -2);
        Check.due("not NONE, ahead of -5", x.slips(0, 0), -2);
        Check.row(x, 0, 2);
        for (int room : new int[] {-1, 3, Integer.MIN_VALUE, Integer.MAX_VALUE}) {
            Check.due("slips(0, " + room + ")", x.slips(0, room), -2);
            Check.due("slips(1, " + room + ") of nothing", x.slips(1, room), -2);
        }
        for (int slot : new int[] {-1, 4, Integer.MIN_VALUE, Integer.MAX_VALUE}) {
            Check.due("slips(" + slot + ", 0)", x.slips(slot, 0), -2);
        }
        for (int slot = 1; slot <= 3; slot++) {
            Check.due("slips(" + slot + ", 0) of nothing", x.slips(slot, 0), -6);
        }
        CallForBrown none = new CallForBrown();
        Check.due("without a HOUSE, nothing", none.slips(0, 0), -2);
        none.row(0, 0, 0);
        Check.due("without a HOUSE", none.slips(0, 0), -2);
        CallForBrown empty = rooms(0);
        empty.row(0, 0, 0);
        Check.due("without ROOMS", empty.slips(0, 0), -2);
    }

    private static void boys() {
        Check.says("43", "The fewest boys (1, 2) who can from some ROOMS.");
        Check.due("one ROOM", rooms(1).boys(), 1);
        Check.due("two apart", rooms(2).boys(), 2);
        Check.due("two by a door", rooms(2, 0, 1).boys(), 2);
        Check.due("a row of seven", path().boys(), 2);
        Check.says("43", "3: two can't; -2: there are no ROOMS.");
        Check.due("three apart", rooms(3).boys(), 3);
        Check.due("a ring", rooms(3, 0, 1, 1, 2, 2, 0).boys(), 3);
        Check.due("without ROOMS", rooms(0).boys(), -2);
        Check.due("without a HOUSE", new CallForBrown().boys(), -2);
    }

    private static void pairs() {
        Check.says("44", "How many pairs of ROOMS (the first no greater) there are from which two can.");
        Check.due("one ROOM, both in it", rooms(1).pairs(), 1);
        Check.due("two apart, not both in one", rooms(2).pairs(), 1);
        Check.due("two by a door", rooms(2, 0, 1).pairs(), 3);
        Check.due("all of seven", path().pairs(), 28);
        Check.due("three apart", rooms(3).pairs(), 0);
        Check.due("a ring", rooms(3, 0, 1, 1, 2, 2, 0).pairs(), 0);
        Check.says("44", "-2 likewise.");
        Check.due("without ROOMS", rooms(0).pairs(), -2);
        Check.due("without a HOUSE", new CallForBrown().pairs(), -2);
    }

    private static void nothingHappens() {
        Check.says("39", "CHASE (IV)");
        CallForBrown x = rooms(4, 0, 1, 0, 2, 0, 3);
        x.call(1);
        Check.row(x, 0, 0, 1);
        String seen = Check.look(x);
        Check.due("two(0, 1)", x.two(0, 1), 2);
        Check.due("one(0) between", x.one(0), -1);
        Check.due("way(0, 1, 0, 1) behind another", x.way(0, 1, 0, 1), 0);
        Check.due("boys()", x.boys(), 2);
        Check.due("pairs()", x.pairs(), 10);
        Check.due("slips(0, 2)", x.slips(0, 2), 13);
        Check.stays("the CHASE", x, seen);
    }
}
