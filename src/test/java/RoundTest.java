/** Promises 19 to 26 and 32: ROUNDS asked about, not made. */
public final class RoundTest {
    /** 0 - 1 - 2, PARTS 400000, 200000, 200000, OUT 200000. */
    private static final String CHAIN = "house moves 50 here 80 worth 100 price 5;room people 10 hears 50 sits 2;"
            + "room people 20 hears 80 sits 1;room people 5 hears 25 sits 1;door 0 1;door 1 2;";

    public static void main(String[] args) {
        rounds();
        fromNowOn();
        gains();
        doubts();
        walks();
        pennies();
        hangs();
        emptyRow();
        widths();
        wrongInputs();
        Check.finish();
    }

    private static void rounds() {
        CallForBrown x = Check.told(CHAIN);
        Check.row(x, 0, 1, 0, -1);
        Check.due("round(0)", x.round(0), 160000 + 105000);
        Check.due("behind(0, 0)", x.behind(0, 0), 133125);
        Check.due("behind(0, 1)", x.behind(0, 1), 267500);
        Check.due("behind(0, 2)", x.behind(0, 2), 134375);
        Check.due("disturbs(0)", x.disturbs(0), 30);
        Check.row(x, 1, 2, 2, 0, 2);
        Check.due("disturbs(1), each time", x.disturbs(1), 25);
        Check.due("nothing is made", x.count(6), 0);
        Check.due("nothing is found", x.found(), 0);
        Check.due("parts stay", x.parts(0), 400000);
    }

    private static void fromNowOn() {
        CallForBrown x = Check.told(CHAIN);
        x.call(1);
        Check.row(x, 0, 0);
        Check.due("round(0) from now on", x.round(0), 105000);
        Check.due("behind(0, 1) from now on", x.behind(0, 1), 267500);
        Check.due("gain(0) from now on", x.gain(0), 5);
        Check.due("found() stays", x.found(), 160000);
    }

    private static void gains() {
        CallForBrown x = Check.told(CHAIN);
        Check.row(x, 0, 1, 0, -1);
        Check.due("gain(0)", x.gain(0), 26 - 15);
        Check.due("stop(0)", x.stop(0), 2);
        Check.row(x, 1, -1, -1, 1);
        // Two minutes cost 10, then 80 in a hundred of 400000 PARTS are FOUND.
        Check.due("gain(1)", x.gain(1), 32 - 15);
        Check.due("stop(1) at last", x.stop(1), 3);
        Check.row(x, 2, -1, -1);
        Check.due("gain(2) is below 0", x.gain(2), -10);
        Check.due("stop(2) at once", x.stop(2), 0);
        CallForBrown free = Check.told("house moves 0 here 100 worth 999 price 0;room people 0 hears 100 sits 1;");
        Check.row(free, 0, -1, 0, 0);
        Check.due("gain of all", free.gain(0), 999);
        Check.due("the fewest of several", free.stop(0), 2);
        CallForBrown cut = Check.told("house moves 0 here 100 worth 3 price 1;room people 0 hears 50 sits 1;");
        Check.row(cut, 0, 0, 0, 0);
        // 1.5, 2.25, 2.625 by then, cut, less 1, 2, 3.
        Check.due("gain is cut", cut.gain(0), -1);
        Check.due("stop of like ones", cut.stop(0), 0);
        CallForBrown once = Check.told("house moves 0 here 100 worth 2 price 1;room people 0 hears 100 sits 1;");
        Check.row(once, 0, 0, -1);
        Check.due("a gain of one", once.stop(0), 1);
        x.call(1);
        x.call(1);
        Check.row(x, 0, 2, -1);
        // What was FOUND ahead counts for nothing: 25 in a hundred of what ROOM 2 has, no more than price.
        Check.due("parts(2)", x.parts(2) < 200000 ? 1 : 0, 1);
        Check.due("stop from now on", x.stop(0), 0);
    }

    private static void doubts() {
        CallForBrown x = Check.told(CHAIN);
        Check.row(x, 0, 1, 0, -1);
        Check.due("doubt(0, 1000000)", x.doubt(0, 1000000), 0);
        Check.due("doubt(0, 800001)", x.doubt(0, 800001), 0);
        Check.due("doubt(0, 800000)", x.doubt(0, 800000), 1);
        Check.due("doubt(0, 761905)", x.doubt(0, 761905), 1);
        Check.due("doubt(0, 761904)", x.doubt(0, 761904), 2);
        Check.due("doubt(0, 727892)", x.doubt(0, 727892), 2);
        Check.due("doubt(0, 727891)", x.doubt(0, 727891), -1);
        Check.due("doubt(0, 0)", x.doubt(0, 0), -1);
        x.call(1);
        Check.due("all that was found counts", x.doubt(0, 761905), 0);
        Check.due("as here() now", x.doubt(0, 761904), 1);
        Check.due("doubt(0, -1)", x.doubt(0, -1), -2);
        Check.due("doubt(0, 1000001)", x.doubt(0, 1000001), -2);
    }

    private static void walks() {
        CallForBrown x = Check.told(CHAIN);
        Check.row(x, 0, 1, 0, -1, 0, 1, 2);
        Check.due("walks(0, 0)", x.walks(0, 0), 1);
        Check.due("walks(0, 1), he stays at first", x.walks(0, 1), 1);
        Check.due("walks(0, 2)", x.walks(0, 2), 1);
        Check.row(x, 1, 0, 2);
        Check.due("no door", x.walks(1, 0), 0);
        Check.row(x, 1, 2);
        Check.due("no door at first", x.walks(1, 0), 0);
        Check.row(x, 1, -1, 2);
        Check.due("NONE is where he stands", x.walks(1, 1), 1);
        Check.due("and no way on", x.walks(1, 0), 0);
        Check.due("walks(1, 3)", x.walks(1, 3), -2);
        Check.due("walks(1, -1)", x.walks(1, -1), -2);
    }

    private static void pennies() {
        CallForBrown x = Check.told(CHAIN);
        Check.row(x, 0, 1, 0, -1);
        // 11; 33 - 15 - 2; 35 - 15 - 4; 36 - 15 - 6; ..
        Check.due("penny(0), the fewest of several", x.penny(0), 1);
        Check.row(x, 1, -1, -1);
        Check.due("penny(1) without calls", x.penny(1), 0);
        CallForBrown each = Check.told("house moves 0 here 100 worth 10 price 0;room people 0 hears 50 sits 1;");
        Check.row(each, 0, 0);
        // 5; 7 - 1; 8 - 2; 8 - 3; ..
        Check.due("penny(0) for one call", each.penny(0), 1);
        CallForBrown heard = Check.told("house moves 0 here 100 worth 10 price 0;room people 0 hears 100 sits 1;");
        Check.row(heard, 0, 0);
        Check.due("penny(0) where all is heard", heard.penny(0), 0);
        CallForBrown dear = Check.told("house moves 0 here 100 worth 999 price 0;room people 0 hears 0 sits 1;");
        Check.row(dear, 0, 0);
        // 0, 500, 670, .. 900 in a thousand, less a penny each.
        Check.due("penny(0) of much worth", dear.penny(0), 9);
        CallForBrown cheap = Check.told("house moves 0 here 100 worth 1 price 999;room people 0 hears 50 sits 1;");
        Check.row(cheap, 0, 0);
        Check.due("penny(0) of no worth", cheap.penny(0), 0);
    }

    private static void hangs() {
        CallForBrown x = Check.told(CHAIN);
        Check.row(x, 0, 1, 0, -1);
        Check.due("hangs(0)", x.hangs(0), 2);
        Check.row(x, 0, 1, 0);
        Check.due("hangs(0) never", x.hangs(0), -1);
        Check.row(x, 0, -1, 1);
        Check.due("hangs(0) at once", x.hangs(0), 0);
        CallForBrown just = Check.told("house moves 0 here 100 worth 10 price 5;room people 0 hears 50 sits 1;");
        Check.row(just, 0, 0, 0);
        Check.due("as much as price is not below", just.hangs(0), 1);
        CallForBrown less = Check.told("house moves 0 here 100 worth 10 price 6;room people 0 hears 50 sits 1;");
        Check.row(less, 0, 0);
        Check.due("without pence", less.hangs(0), 0);
        CallForBrown free = Check.told("house moves 0 here 100 worth 0 price 0;room people 0 hears 50 sits 1;");
        Check.row(free, 0, -1);
        Check.due("nothing is below 0", free.hangs(0), -1);
    }

    private static void emptyRow() {
        CallForBrown x = Check.told(CHAIN);
        x.row(0, 0, 0);
        Check.due("empty round", x.round(0), 0);
        Check.due("empty behind", x.behind(0, 0), 400000);
        Check.due("empty disturbs", x.disturbs(0), 0);
        Check.due("empty gain", x.gain(0), 0);
        Check.due("empty stop", x.stop(0), 0);
        Check.due("empty doubt", x.doubt(0, 1000000), -1);
        Check.due("empty walks", x.walks(0, 2), 1);
        Check.due("empty penny", x.penny(0), 0);
        Check.due("empty hangs", x.hangs(0), -1);
    }

    private static void widths() {
        CallForBrown x = Check.told(CHAIN);
        for (int width = 0; width <= 3; width++) {
            x.row(width, width, 2);
            x.write(width, 0, 1);
            x.write(width, 1, -1);
            Check.due("round of width " + width, x.round(width), 160000);
            x.write(width, 1, 1L << 8 * (1 << width) - 1);
            Check.due("a number that is none, of width " + width, x.round(width), -2);
        }
        x.write(0, 1, 255);
        Check.due("255 in one byte is NONE", x.round(0), 160000);
        x.write(3, 1, 4294967296L);
        Check.due("eight bytes are not cut to four", x.round(3), -2);
        x.write(2, 1, 4294967296L);
        Check.due("four bytes are", x.round(2), 160000 + 105000);
    }

    private static void wrongInputs() {
        CallForBrown none = new CallForBrown();
        CallForBrown x = Check.told(CHAIN);
        codes("no house", none, 0, -2);
        codes("no slot", x, 4, -2);
        codes("no slot", x, -1, -2);
        codes("nothing", x, 0, -6);
        Check.due("no such room, nothing", x.behind(0, 3), -2);
        Check.due("NONE is no such room", x.behind(0, -1), -2);
        Check.due("no such n, nothing", x.doubt(0, -1), -2);
        Check.row(x, 0, 0, 3);
        codes("no room", x, 0, -2);
        Check.row(x, 0, -2);
        codes("not NONE", x, 0, -2);
        Check.row(x, 0, 0);
        Check.due("behind(0, 3)", x.behind(0, 3), -2);
        Check.due("behind(0, -1)", x.behind(0, -1), -2);
    }

    private static void codes(String why, CallForBrown x, int slot, int code) {
        Check.due(why + " round", x.round(slot), code);
        Check.due(why + " behind", x.behind(slot, 0), code);
        Check.due(why + " disturbs", x.disturbs(slot), code);
        Check.due(why + " gain", x.gain(slot), code * 1000000);
        Check.due(why + " stop", x.stop(slot), code);
        Check.due(why + " doubt", x.doubt(slot, 0), code);
        Check.due(why + " walks", x.walks(slot, 0), code);
        Check.due(why + " penny", x.penny(slot), code);
        Check.due(why + " hangs", x.hangs(slot), code);
    }
}
