/** Promises 39 to 44: boys who CLEAR the house. */
public final class ChaseTest {
    public static void main(String[] args) {
        oneRoom();
        twoRooms();
        threeInARow();
        triangle();
        star();
        apart();
        slips();
        wrongInputs();
        Check.finish();
    }

    private static CallForBrown rooms(int n, int... doors) {
        StringBuilder text = new StringBuilder("house moves 50 here 80 worth 1 price 1;");
        for (int i = 0; i < n; i++) {
            text.append("room people 0 hears 50 sits 1;");
        }
        for (int i = 0; i + 1 < doors.length; i += 2) {
            text.append("door ").append(doors[i]).append(' ').append(doors[i + 1]).append(';');
        }
        return Check.told(text.toString());
    }

    private static void oneRoom() {
        CallForBrown x = rooms(1);
        Check.due("one(0)", x.one(0), 0);
        Check.due("two(0, 0)", x.two(0, 0), 0);
        Check.due("way(0, 0, 0, 0)", x.way(0, 0, 0, 0), -1);
        Check.due("boys()", x.boys(), 1);
        Check.due("pairs()", x.pairs(), 1);
    }

    private static void twoRooms() {
        CallForBrown x = rooms(2, 0, 1);
        Check.due("HE slips by one", x.one(0), -1);
        Check.due("two(0, 1)", x.two(0, 1), 0);
        Check.due("two(0, 0)", x.two(0, 0), 1);
        Check.due("way(0, 0, 0, 0)", x.way(0, 0, 0, 0), 0);
        Check.due("way(0, 0, 1, 0)", x.way(0, 0, 1, 0), 1);
        Check.due("way(0, 0, 0, 1)", x.way(0, 0, 0, 1), -1);
        Check.due("way(0, 0, 0, -1)", x.way(0, 0, 0, -1), -1);
        Check.due("way(0, 1, 0, 0)", x.way(0, 1, 0, 0), -1);
        Check.due("boys()", x.boys(), 2);
        Check.due("pairs()", x.pairs(), 3);
    }

    private static void threeInARow() {
        CallForBrown x = rooms(3, 0, 1, 1, 2);
        Check.due("one(1)", x.one(1), -1);
        Check.due("two(0, 1)", x.two(0, 1), 1);
        Check.due("two(0, 2)", x.two(0, 2), 2);
        Check.due("two(1, 1)", x.two(1, 1), 2);
        Check.due("two(2, 2)", x.two(2, 2), 2);
        Check.due("two(2, 1)", x.two(2, 1), 1);
        Check.due("way(0, 2, 0, 0)", x.way(0, 2, 0, 0), 0);
        Check.due("way(0, 2, 1, 0)", x.way(0, 2, 1, 0), 1);
        Check.due("way(0, 2, 0, 1)", x.way(0, 2, 0, 1), 1);
        Check.due("way(0, 2, 1, 1)", x.way(0, 2, 1, 1), 2);
        Check.due("way(0, 2, 1, 2)", x.way(0, 2, 1, 2), -1);
        Check.due("way(1, 2, 0, 0)", x.way(1, 2, 0, 0), 0);
        Check.due("way(1, 2, 1, 0)", x.way(1, 2, 1, 0), 1);
        Check.due("way(2, 1, 0, 0), the first one's row", x.way(2, 1, 0, 0), 1);
        Check.due("way(2, 1, 1, 0)", x.way(2, 1, 1, 0), 0);
        Check.due("boys()", x.boys(), 2);
        Check.due("pairs()", x.pairs(), 6);
    }

    private static void triangle() {
        CallForBrown x = rooms(3, 0, 1, 1, 2, 2, 0);
        Check.due("two(0, 1)", x.two(0, 1), -1);
        Check.due("way(0, 1, 0, 0)", x.way(0, 1, 0, 0), -1);
        Check.due("boys()", x.boys(), 3);
        Check.due("pairs()", x.pairs(), 0);
        x.shut(0, 2, 0);
        Check.due("boys() by a door less", x.boys(), 2);
    }

    private static void star() {
        CallForBrown x = rooms(4, 0, 1, 0, 2, 0, 3);
        Check.due("two(0, 1)", x.two(0, 1), 2);
        Check.due("way(0, 1, 0, 0)", x.way(0, 1, 0, 0), 2);
        Check.due("way(0, 1, 1, 0)", x.way(0, 1, 1, 0), 0);
        Check.due("way(0, 1, 0, 1)", x.way(0, 1, 0, 1), 0);
        Check.due("way(0, 1, 1, 1)", x.way(0, 1, 1, 1), 3);
        Check.due("pairs()", x.pairs(), 10);
    }

    private static void apart() {
        CallForBrown two = rooms(2);
        Check.due("each stands in one", two.two(0, 1), 0);
        Check.due("none in the other", two.two(0, 0), -1);
        Check.due("boys()", two.boys(), 2);
        Check.due("pairs()", two.pairs(), 1);
        CallForBrown three = rooms(3);
        Check.due("boys() of three", three.boys(), 3);
        Check.due("pairs() of three", three.pairs(), 0);
        CallForBrown odd = rooms(3, 0, 2);
        // One can't clear 0 and 2 alone, nor two leave 1.
        Check.due("boys() of a pair and one", odd.boys(), 3);
    }

    private static void slips() {
        CallForBrown x = rooms(3, 0, 1, 1, 2);
        Check.row(x, 0, 1, 2);
        Check.due("slips(0, 0)", x.slips(0, 0), 3);
        Check.due("slips(0, 1)", x.slips(0, 1), 3);
        Check.row(x, 0, -1);
        Check.due("he stays", x.slips(0, 0), 6);
        Check.row(x, 0, 1, -1, -1);
        Check.due("he stays in the middle", x.slips(0, 0), 5);
        x.row(1, 0, 0);
        Check.due("at first", x.slips(1, 1), 5);
        Check.row(x, 0, 2);
        Check.due("he can't go so", x.slips(0, 0), -5);
        Check.due("but from 1", x.slips(0, 1), 3);
        Check.row(x, 0, 2, 3);
        Check.due("-2 ahead of -5", x.slips(0, 0), -2);
        Check.due("nothing", x.slips(2, 0), -6);
        Check.due("no slot", x.slips(4, 0), -2);
        Check.due("no room", x.slips(0, 3), -2);
        Check.due("no room, nothing", x.slips(2, -1), -2);
        Check.due("no house", new CallForBrown().slips(0, 0), -2);
        CallForBrown alone = rooms(2);
        Check.row(alone, 0, -1, -1);
        Check.due("HE has no door either", alone.slips(0, 0), 2);
    }

    private static void wrongInputs() {
        CallForBrown none = new CallForBrown();
        CallForBrown empty = Check.told("house moves 1 here 1 worth 1 price 1;");
        CallForBrown x = rooms(3, 0, 1, 1, 2);
        Check.due("one(3)", x.one(3), -2);
        Check.due("one(-1)", x.one(-1), -2);
        Check.due("two(3, 0)", x.two(3, 0), -2);
        Check.due("two(0, 3)", x.two(0, 3), -2);
        Check.due("two(-1, 0)", x.two(-1, 0), -2);
        Check.due("way(3, 0, 0, 0)", x.way(3, 0, 0, 0), -2);
        Check.due("way(0, -1, 0, 0)", x.way(0, -1, 0, 0), -2);
        Check.due("way(0, 1, 2, 0)", x.way(0, 1, 2, 0), -2);
        Check.due("way(0, 1, -1, 0)", x.way(0, 1, -1, 0), -2);
        Check.due("no house one", none.one(0), -2);
        Check.due("no house two", none.two(0, 0), -2);
        Check.due("no house way", none.way(0, 0, 0, 0), -2);
        Check.due("no house boys", none.boys(), -2);
        Check.due("no house pairs", none.pairs(), -2);
        Check.due("no rooms boys", empty.boys(), -2);
        Check.due("no rooms pairs", empty.pairs(), -2);
    }
}
