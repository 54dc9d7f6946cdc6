/** Promises 27 to 31: the best rounds of one BOY, and how far ROOMS are. */
public final class BoyTest {
    /** 0 - 1 - 2, PARTS 400000, 200000, 200000, OUT 200000. */
    private static final String CHAIN = "house moves 50 here 80 worth 100 price 5;room people 10 hears 50 sits 2;"
            + "room people 20 hears 80 sits 1;room people 5 hears 25 sits 1;door 0 1;door 1 2;";

    public static void main(String[] args) {
        best();
        likeWays();
        begins();
        soon();
        far();
        wholeHouse();
        wrongInputs();
        Check.finish();
    }

    private static void best() {
        CallForBrown x = Check.told(CHAIN);
        Check.due("best(0, 0)", x.best(0, 0), 0);
        Check.due("best(0, 1)", x.best(0, 1), 200000);
        Check.due("best(2, 1)", x.best(2, 1), 160000);
        Check.due("goes(2, 1, 0)", x.goes(2, 1, 0), 1);
        Check.due("best(0, 2)", x.best(0, 2), 440000);
        Check.due("goes(0, 2, 0)", x.goes(0, 2, 0), 0);
        Check.due("goes(0, 2, 1)", x.goes(0, 2, 1), 1);
        Check.due("goes(0, 2, 2)", x.goes(0, 2, 2), -1);
        Check.due("goes(0, 2, -1)", x.goes(0, 2, -1), -1);
        Check.due("goes(0, 0, 0)", x.goes(0, 0, 0), -1);
        Check.due("best(1, 2)", x.best(1, 2), 440000);
        Check.due("best(2, 2)", x.best(2, 2), 416000);
        Check.due("goes(2, 2, 0)", x.goes(2, 2, 0), 1);
        Check.due("goes(2, 2, 1)", x.goes(2, 2, 1), 1);
        x.call(1);
        Check.due("best(0, 1) from now on", x.best(0, 1), 256000);
        Check.due("goes(0, 1, 0) from now on", x.goes(0, 1, 0), 1);
        Check.due("found() stays", x.found(), 160000);
        roundsAgree(Check.told(CHAIN));
    }

    /** The way that goes() tells is a ROUND that finds what best() tells. */
    private static void roundsAgree(CallForBrown x) {
        for (int n = 1; n <= 5; n++) {
            for (int room = 0; room < 3; room++) {
                x.row(0, 0, n);
                for (int i = 0; i < n; i++) {
                    x.write(0, i, x.goes(room, n, i));
                }
                Check.due("round of goes(" + room + ", " + n + ")", x.round(0), x.best(room, n));
                Check.due("walks of goes(" + room + ", " + n + ")", x.walks(0, room), 1);
            }
        }
    }

    private static void likeWays() {
        CallForBrown x = Check.told("house moves 0 here 100 worth 1 price 1;room people 0 hears 100 sits 1;"
                + "room people 0 hears 100 sits 1;room people 0 hears 100 sits 0;door 0 1;door 1 2;door 0 2;");
        Check.due("best(2, 2)", x.best(2, 2), 1000000);
        Check.due("the least row, first", x.goes(2, 2, 0), 0);
        Check.due("the least row, then", x.goes(2, 2, 1), 1);
        Check.due("best(2, 4)", x.best(2, 4), 1000000);
        int[] least = {0, 0, 0, 1};
        for (int i = 0; i < 4; i++) {
            Check.due("the least row of four, " + i, x.goes(2, 4, i), least[i]);
        }
        for (int room = 0; room < 3; room++) {
            x.tell(room, 1, 0);
        }
        Check.due("nothing is heard", x.best(2, 3), 0);
        Check.due("the least row of nothing", x.goes(2, 3, 2), 0);
    }

    private static void begins() {
        CallForBrown x = Check.told(CHAIN);
        Check.due("begins(0)", x.begins(0), 0);
        Check.due("begins(1)", x.begins(1), 0);
        Check.due("begins(2)", x.begins(2), 0);
        CallForBrown last = Check.told("house moves 0 here 100 worth 1 price 1;room people 0 hears 9 sits 1;"
                + "room people 0 hears 10 sits 1;room people 0 hears 11 sits 1;room people 0 hears 12 sits 1;door 2 3;");
        Check.due("from 2 he comes to 3", last.begins(1), 2);
        last.shut(2, 3, 0);
        Check.due("only from 3", last.begins(1), 3);
        Check.due("only from 3, long", last.begins(5), 3);
        CallForBrown first = Check.told("house moves 0 here 100 worth 1 price 1;room people 0 hears 12 sits 1;"
                + "room people 0 hears 10 sits 1;");
        Check.due("only from 0", first.begins(1), 0);
        CallForBrown nobody = Check.told("house moves 0 here 0 worth 1 price 1;room people 0 hears 12 sits 1;"
                + "room people 0 hears 10 sits 1;");
        Check.due("nobody, the first", nobody.begins(3), 0);
        CallForBrown single = Check.told("house moves 0 here 50 worth 1 price 1;room people 0 hears 12 sits 1;");
        Check.due("one room", single.begins(3), 0);
        Check.due("begins(-1)", last.begins(-1), -2);
        Check.due("begins(6)", last.begins(6), -2);
    }

    private static void soon() {
        CallForBrown x = Check.told(CHAIN);
        Check.due("soon(0, 0)", x.soon(0, 0), 0);
        Check.due("soon(0, 1)", x.soon(0, 1), 1);
        Check.due("soon(0, 200000)", x.soon(0, 200000), 1);
        Check.due("soon(0, 200001)", x.soon(0, 200001), 2);
        Check.due("soon(0, 440000)", x.soon(0, 440000), 2);
        Check.due("soon(0, 440001)", x.soon(0, 440001), 3);
        Check.due("soon of the most", x.soon(0, x.best(0, 5)), 5);
        Check.due("soon of one more", x.soon(0, x.best(0, 5) + 1), -1);
        Check.due("soon(0, 1000000)", x.soon(0, 1000000), -1);
        Check.due("soon(0, -1)", x.soon(0, -1), -2);
        Check.due("soon(0, 1000001)", x.soon(0, 1000001), -2);
    }

    private static void far() {
        CallForBrown x = Check.told(CHAIN + "room people 0 hears 0 sits 0;");
        Check.due("far(0, 0)", x.far(0, 0), 0);
        Check.due("far(0, 1)", x.far(0, 1), 1);
        Check.due("far(2, 0)", x.far(2, 0), 2);
        Check.due("far(0, 3)", x.far(0, 3), -1);
        Check.due("far(3, 3)", x.far(3, 3), 0);
        x.shut(2, 0, 1);
        Check.due("far(2, 0) by a new door", x.far(2, 0), 1);
        StringBuilder seven = new StringBuilder("house moves 0 here 0 worth 0 price 0;");
        for (int i = 0; i < 7; i++) {
            seven.append("room people 0 hears 0 sits 0;");
        }
        CallForBrown row = Check.told(seven + "door 0 1;door 1 2;door 2 3;door 3 4;door 4 5;door 5 6;");
        Check.due("far(0, 6)", row.far(0, 6), 6);
        Check.due("far(6, 1)", row.far(6, 1), 5);
    }

    private static void wholeHouse() {
        StringBuilder text = new StringBuilder("house moves 100 here 100 worth 0 price 0;");
        for (int i = 0; i < 7; i++) {
            text.append("room people 0 hears 10 sits 1;");
        }
        CallForBrown x = Check.told(text.toString());
        for (int a = 0; a < 7; a++) {
            for (int b = 0; b < a; b++) {
                x.shut(a, b, 1);
            }
        }
        Check.due("a call finds a tenth of a seventh", x.best(6, 1), 14285);
        Check.due("begins(5)", x.begins(5), 0);
        Check.due("all start alike", x.best(6, 5), x.best(0, 5));
    }

    private static void wrongInputs() {
        CallForBrown none = new CallForBrown();
        CallForBrown x = Check.told(CHAIN);
        Check.due("best(3, 1)", x.best(3, 1), -2);
        Check.due("best(-1, 1)", x.best(-1, 1), -2);
        Check.due("best(0, 6)", x.best(0, 6), -2);
        Check.due("best(0, -1)", x.best(0, -1), -2);
        Check.due("goes(3, 1, 0)", x.goes(3, 1, 0), -2);
        Check.due("goes(-1, 1, 0)", x.goes(-1, 1, 0), -2);
        Check.due("goes(0, 6, 0)", x.goes(0, 6, 0), -2);
        Check.due("goes(0, -1, 0)", x.goes(0, -1, 0), -2);
        Check.due("soon(3, 0)", x.soon(3, 0), -2);
        Check.due("soon(-1, 0)", x.soon(-1, 0), -2);
        Check.due("far(3, 0)", x.far(3, 0), -2);
        Check.due("far(0, 3)", x.far(0, 3), -2);
        Check.due("far(-1, 0)", x.far(-1, 0), -2);
        Check.due("no house best", none.best(0, 0), -2);
        Check.due("no house goes", none.goes(0, 1, 0), -2);
        Check.due("no house begins", none.begins(0), -2);
        Check.due("no house soon", none.soon(0, 0), -2);
        Check.due("no house far", none.far(0, 0), -2);
        Check.due("no room begins", Check.told("house moves 1 here 1 worth 1 price 1;").begins(0), -2);
    }
}
