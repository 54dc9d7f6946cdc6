/** Promises 61 to 65: IMAGES gone back to, and rows in SLOTS. */
public final class KeepTest {
    private static final String ROOMS = "house moves 50 here 80 worth 100 price 5;room people 10 hears 50 sits 2;"
            + "room people 20 hears 80 sits 1;room people 5 hears 25 sits 1;door 0 1;door 1 2;";

    public static void main(String[] args) {
        images();
        imageOfNone();
        rowsMade();
        writes();
        pastes();
        pasteCodes();
        Check.finish();
    }

    private static void images() {
        CallForBrown x = Check.told(ROOMS + "man weighs 3 yes 1;man weighs 4;slate 0 as 1 7;");
        Check.due("back(0) of nothing", x.back(0), -6);
        x.call(1);
        x.call(0);
        Check.due("image(2)", x.image(2), 0);
        int found = x.found();
        int parts = x.parts(0);
        x.call(2);
        x.anew();
        x.tell(0, 2, 9);
        x.tell(1, 1, 1);
        x.tell(2, 0, 1);
        x.shut(0, 1, 0);
        Check.due("image(0)", x.image(0), 0);
        Check.tell(x, "house moves 1 here 2 worth 3 price 4;");
        Check.row(x, 0, -1);
        x.feed(1, 2, 3, 4, 5);
        Check.due("back(2)", x.back(2), 0);
        Check.due("found()", x.found(), found);
        Check.due("parts(0)", x.parts(0), parts);
        Check.due("count(6)", x.count(6), 2);
        Check.due("count(4)", x.count(4), 9);
        Check.due("sits", x.room(0, 2), 2);
        Check.due("hears", x.room(1, 1), 80);
        Check.due("people", x.room(2, 0), 5);
        Check.due("doors", x.room(0, 3), 2);
        Check.due("men", x.man(1, 0), 4);
        Check.due("yes", x.man(0, 1), 2);
        Check.due("slate", x.slate(0, 1), 7);
        Check.due("gain by worth and price", x.gain(0), -5);
        Check.due("slots stay", x.count(7), 1);
        Check.due("tape stays", x.count(5), 20);
        Check.due("undo() of the image's", x.undo(), 1);
        Check.due("back(0)", x.back(0), 0);
        Check.due("sits as told", x.room(0, 2), 9);
        Check.due("parts as told", x.parts(0), 800000 * 9 / 11);
        Check.due("no door", x.count(1), 1);
        Check.due("no minutes", x.count(6), 0);
        Check.due("back(2) again", x.back(2), 0);
        Check.due("the image kept two", x.count(6), 2);
        Check.due("back(1)", x.back(1), -6);
        Check.due("another image in its place", x.image(0), 0);
        x.anew();
        x.back(0);
        Check.due("two minutes again", x.count(6), 2);
        for (int k : new int[] {-1, 3, Integer.MAX_VALUE}) {
            Check.due("image(" + k + ")", x.image(k), -2);
            Check.due("back(" + k + ")", x.back(k), -2);
        }
    }

    private static void imageOfNone() {
        CallForBrown x = new CallForBrown();
        Check.due("image(1) of no house", x.image(1), 0);
        Check.tell(x, ROOMS);
        x.call(0);
        Check.tell(x, ROOMS + "?");
        Check.due("back(1)", x.back(1), 0);
        Check.due("no house", x.found(), -2);
        Check.due("no rooms", x.count(0), 0);
        Check.due("no minutes", x.count(6), 0);
        Check.due("the latest fault stays", x.fault(0), 1);
    }

    private static void rowsMade() {
        CallForBrown x = Check.told(ROOMS);
        Check.due("row(0, 0, 3)", x.row(0, 0, 3), 0);
        Check.due("round of zeros", x.round(0), 200000 + 75000 + 56250);
        x.write(0, 1, 2);
        Check.due("row(0, 3, 60)", x.row(0, 3, 60), 0);
        Check.due("all 0", x.habit(0), 0);
        Check.due("all 0, each", x.period(0), 1);
        Check.due("row(0, 0, -1)", x.row(0, 0, -1), -3);
        Check.due("the slot stays", x.write(0, 59, 1), 0);
        Check.due("row(1, 0, -1)", x.row(1, 0, -1), -3);
        Check.due("nothing came", x.round(1), -6);
        Check.due("row(0, 0, 61)", x.row(0, 0, 61), -2);
        Check.due("row(0, 4, 1)", x.row(0, 4, 1), -2);
        Check.due("row(0, -1, 1)", x.row(0, -1, 1), -2);
        Check.due("row(4, 0, 1)", x.row(4, 0, 1), -2);
        Check.due("row(-1, 0, 1)", x.row(-1, 0, 1), -2);
        Check.due("-2 ahead of -3", x.row(0, 4, -1), -2);
        Check.due("count(7)", x.count(7), 1);
        Check.due("row(3, 1, 0)", x.row(3, 1, 0), 0);
        Check.due("an empty row is one", x.count(7), 2);
        Check.due("no house is needed", new CallForBrown().row(0, 0, 1), 0);
    }

    private static void writes() {
        CallForBrown x = Check.told(ROOMS);
        Check.due("write of nothing", x.write(0, 0, 1), -6);
        x.row(0, 0, 2);
        Check.due("write(0, 1, 257)", x.write(0, 1, 257), 0);
        Check.due("cut to 1", x.follows(0, 0), 1);
        Check.due("write(0, 2, 1)", x.write(0, 2, 1), -7);
        Check.due("write(0, -1, 1)", x.write(0, -1, 1), -7);
        Check.due("write(4, 0, 1)", x.write(4, 0, 1), -2);
        Check.due("write(-1, 0, 1)", x.write(-1, 0, 1), -2);
        x.row(1, 1, 1);
        x.write(1, 0, 65538L);
        Check.due("two bytes", x.habit(1), 2);
        x.write(1, 0, 258);
        Check.due("two bytes are not cut to one", x.habit(1), -2);
        x.row(2, 2, 1);
        x.write(2, 0, (1L << 32) + 1);
        Check.due("four bytes", x.habit(2), 1);
        x.write(2, 0, 65537);
        Check.due("four bytes are not cut to two", x.habit(2), -2);
        x.row(3, 3, 1);
        x.write(3, 0, (1L << 32) + 1);
        Check.due("eight bytes", x.habit(3), -2);
        x.row(3, 3, 0);
        Check.due("an empty row has none", x.write(3, 0, 0), -7);
    }

    private static void same(CallForBrown x, int slot, String what, int... row) {
        // A row of ROOMS is told by what each of its prefixes disturbs: 10, 20, 5 are all unlike.
        int before = 0;
        for (int n = 1; n <= row.length; n++) {
            x.row(3, 0, n);
            Check.due(what + " can be looked at", x.paste(slot, 0, 3, 0, n), 0);
            int people = x.disturbs(3);
            Check.due(what + " number " + (n - 1), people - before, x.room(row[n - 1], 0));
            before = people;
        }
    }

    private static void pastes() {
        CallForBrown x = Check.told(ROOMS);
        Check.row(x, 0, 0, 1, 2, 1, 0);
        Check.row(x, 1, 2, 2, 2);
        Check.due("paste(0, 1, 1, 0, 2)", x.paste(0, 1, 1, 0, 2), 0);
        same(x, 1, "pasted", 1, 2, 2);
        same(x, 0, "from", 0, 1, 2, 1, 0);
        Check.due("paste to its own, on", x.paste(0, 0, 0, 1, 4), 0);
        same(x, 0, "on", 0, 0, 1, 2, 1);
        Check.due("paste to its own, back", x.paste(0, 2, 0, 0, 3), 0);
        same(x, 0, "back", 1, 2, 1, 2, 1);
        Check.due("paste of none", x.paste(0, 0, 1, 0, 0), 0);
        Check.due("paste of none at the end", x.paste(0, 5, 1, 3, 0), 0);
        same(x, 1, "as it was", 1, 2, 2);
        Check.due("paste of all", x.paste(1, 0, 0, 2, 3), 0);
        same(x, 0, "all", 1, 2, 1, 2, 2);
        x.row(1, 3, 2);
        x.row(2, 3, 2);
        x.write(1, 1, 1L << 40);
        x.paste(1, 1, 2, 0, 1);
        Check.due("wide numbers as they were", x.round(2), -2);
    }

    private static void pasteCodes() {
        CallForBrown x = Check.told(ROOMS);
        Check.row(x, 0, 0, 1, 2);
        Check.row(x, 1, 1, 1);
        Check.due("paste(4, 0, 0, 0, 1)", x.paste(4, 0, 0, 0, 1), -2);
        Check.due("paste(0, 0, -1, 0, 1)", x.paste(0, 0, -1, 0, 1), -2);
        Check.due("-2 ahead of -6", x.paste(2, 0, 4, 0, 1), -2);
        Check.due("from nothing", x.paste(2, 0, 0, 0, 1), -6);
        Check.due("to nothing", x.paste(0, 0, 2, 0, 1), -6);
        x.row(2, 1, 2);
        Check.due("unlike widths", x.paste(0, 0, 2, 0, 1), -8);
        Check.due("-8 ahead of -7", x.paste(0, -1, 2, 0, 1), -8);
        Check.due("beyond from", x.paste(0, 2, 1, 0, 2), -7);
        Check.due("beyond to", x.paste(0, 0, 1, 1, 2), -7);
        Check.due("place below 0", x.paste(0, -1, 1, 0, 1), -7);
        Check.due("other place below 0", x.paste(0, 0, 1, -1, 1), -7);
        Check.due("n below 0", x.paste(0, 1, 1, 1, -1), -7);
        Check.due("far beyond", x.paste(0, Integer.MAX_VALUE, 1, 0, Integer.MAX_VALUE), -7);
        Check.due("far beyond to", x.paste(0, 0, 1, Integer.MAX_VALUE, 1), -7);
        same(x, 0, "nothing happened", 0, 1, 2);
        same(x, 1, "nothing happened there", 1, 1);
    }
}
