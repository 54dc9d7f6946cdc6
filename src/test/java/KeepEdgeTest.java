/** The edges that promises 61 to 65 name, a sentence each. */
public final class KeepEdgeTest {
    /** 0 - 1 - 2, people 10, 20, 5. */
    private static final String CHAIN = "house moves 50 here 80 worth 100 price 5;room people 10 hears 50 sits 2;"
            + "room people 20 hears 80 sits 1;room people 5 hears 25 sits 1;door 0 1;door 1 2;man weighs 5 yes 1;";
    private static final int[] NO_SLOTS = {-1, 4, Integer.MIN_VALUE, Integer.MAX_VALUE};
    private static final int[] NO_IMAGES = {-1, 3, Integer.MIN_VALUE, Integer.MAX_VALUE};

    public static void main(String[] args) {
        image();
        imageKeeps();
        back();
        backRefused();
        row();
        rowRefused();
        write();
        writeCut();
        writeRefused();
        paste();
        pasteWithin();
        pasteRefused();
        pasteOrder();
        Check.finish();
    }

    private static void image() {
        Check.says("61", "IMAGE k (0 .. 2) keeps the HOUSE, and MINUTES: 0.");
        CallForBrown x = Check.told(CHAIN);
        String[] seen = new String[3];
        for (int k = 0; k <= 2; k++) {
            seen[k] = Check.look(x);
            Check.due("image(" + k + ")", x.image(k), 0);
            x.call(k);
        }
        for (int k = 2; k >= 0; k--) {
            Check.due("back(" + k + ")", x.back(k), 0);
            Check.stays("back(" + k + ")", x, seen[k]);
        }
        Check.due("forth again", x.back(2), 0);
        Check.due("two MINUTES", x.count(6), 2);
        Check.says("61", "-2: no such k.");
        CallForBrown y = Check.told(CHAIN);
        String before = Check.look(y);
        y.image(0);
        y.call(1);
        String after = Check.look(y);
        for (int k : NO_IMAGES) {
            Check.due("image(" + k + ")", y.image(k), -2);
        }
        Check.stays("no such k", y, after);
        y.back(0);
        Check.stays("no IMAGE went", y, before);
    }

    private static void imageKeeps() {
        Check.says("61", "IMAGE k (0 .. 2) keeps the HOUSE, and MINUTES: 0.");
        CallForBrown none = new CallForBrown();
        Check.due("of no HOUSE", none.image(1), 0);
        Check.tell(none, CHAIN);
        Check.due("back to no HOUSE", none.back(1), 0);
        Check.due("found()", none.found(), -2);
        Check.due("count(0)", none.count(0), 0);
        CallForBrown x = Check.told(CHAIN);
        for (int i = 0; i < 60; i++) {
            x.call(i % 4 - 1);
        }
        String seen = Check.look(x);
        x.image(2);
        x.anew();
        x.back(2);
        Check.stays("sixty MINUTES", x, seen);
        Check.due("sixty are full", x.call(0), -5);
        Check.due("and can be taken back", x.undo(), 59);
        x.image(2);
        x.anew();
        x.back(2);
        Check.due("another in its place", x.count(6), 59);
        Check.due("as it was made", x.call(-1), 0);
        CallForBrown other = Check.told(CHAIN);
        other.call(1);
        other.call(0);
        seen = Check.look(other);
        other.image(0);
        other.anew();
        other.call(2);
        other.call(-1);
        other.call(2);
        other.back(0);
        Check.stays("other MINUTES made", other, seen);
        other.undo();
        Check.due("the first of its own", other.found(), 160000);
        Check.due("the IMAGE stays", x.back(2), 0);
        Check.due("at 59", x.count(6), 59);
    }

    private static void back() {
        Check.says("62", "It is as IMAGE k has it: 0.");
        CallForBrown x = Check.told(CHAIN);
        x.image(0);
        Check.row(x, 1, 1, 2);
        x.feed(1, 2, 3, 4, 5);
        x.house();
        int fault = x.fault(0);
        x.tell(0, 0, 1);
        x.tell(0, 1, 2);
        x.tell(0, 2, 3);
        x.shut(0, 1, 0);
        x.shut(0, 2, 1);
        x.call(2);
        Check.due("back(0)", x.back(0), 0);
        Check.due("people", x.room(0, 0), 10);
        Check.due("hears", x.room(0, 1), 50);
        Check.due("sits", x.room(0, 2), 2);
        Check.due("doors", x.room(0, 3), 2);
        Check.due("doors of 2", x.room(2, 3), 2);
        Check.due("MINUTES", x.count(6), 0);
        Check.due("PARTS", x.parts(0), 400000);
        Check.due("the TAPE stays", x.count(5), 20);
        Check.due("SLOTS stay", x.disturbs(1), 25);
        Check.due("the FAULT stays", x.fault(0), fault);
        Check.due("a fault", fault, 1);
        Check.due("told otherwise again", x.tell(0, 0, 7), 10);
        Check.due("back(0) once more", x.back(0), 0);
        Check.due("people once more", x.room(0, 0), 10);
    }

    private static void backRefused() {
        Check.says("62", "-2: no such k; -6: it has nothing.");
        CallForBrown x = Check.told(CHAIN);
        x.call(1);
        String seen = Check.look(x);
        for (int k : NO_IMAGES) {
            Check.due("back(" + k + ")", x.back(k), -2);
        }
        for (int k = 0; k <= 2; k++) {
            Check.due("back(" + k + ") of nothing", x.back(k), -6);
        }
        Check.stays("back() refused", x, seen);
        x.image(1);
        Check.due("back(0) of nothing yet", x.back(0), -6);
        Check.due("back(1)", x.back(1), 0);
        Check.due("back(2) of nothing yet", x.back(2), -6);
    }

    private static void row() {
        Check.says("63", "A SLOT (0 .. 3) has a row of n numbers of a WIDTH, all 0 (in place of another one): 0.");
        CallForBrown x = Check.told(CHAIN);
        for (int slot = 0; slot <= 3; slot++) {
            for (int width = 0; width <= 3; width++) {
                Check.due("row(" + slot + ", " + width + ", 60)", x.row(slot, width, 60), 0);
                Check.due("all 0", x.disturbs(slot), 600);
                x.write(slot, 59, 1);
            }
        }
        Check.due("row(3, 3, 59)", x.row(3, 3, 59), 0);
        Check.due("one number less", x.write(3, 59, 1), -7);
        Check.due("row(3, 3, 60) again", x.row(3, 3, 60), 0);
        Check.due("the last is 0 again", x.disturbs(3), 600);
        Check.due("row(3, 0, 0)", x.row(3, 0, 0), 0);
        Check.due("an empty row", x.disturbs(3), 0);
        Check.due("without a HOUSE", new CallForBrown().row(3, 3, 60), 0);
    }

    private static void rowRefused() {
        CallForBrown x = Check.told(CHAIN);
        Check.row(x, 1, 2, 1);
        String seen = Check.look(x);
        Check.says("63", "-2: there is no such SLOT or WIDTH (0 .. 3), or n is above 60");
        for (int no : NO_SLOTS) {
            Check.due("row(" + no + ", 0, 1)", x.row(no, 0, 1), -2);
            Check.due("row(1, " + no + ", 1)", x.row(1, no, 1), -2);
            Check.due("row(" + no + ", 0, -1)", x.row(no, 0, -1), -2);
            Check.due("row(1, " + no + ", -1)", x.row(1, no, -1), -2);
        }
        Check.due("row(1, 0, 61)", x.row(1, 0, 61), -2);
        Check.due("row(1, 0, most)", x.row(1, 0, Integer.MAX_VALUE), -2);
        Check.says("63", "-3, and the SLOT stays: n is below 0.");
        Check.due("row(1, 0, -1)", x.row(1, 0, -1), -3);
        Check.due("row(1, 3, least)", x.row(1, 3, Integer.MIN_VALUE), -3);
        Check.due("row(0, 0, -1) of nothing", x.row(0, 0, -1), -3);
        Check.stays("row() refused", x, seen);
        Check.due("nothing yet", x.write(0, 0, 0), -6);
        x.row(2, 0, 1);
        Check.due("the WIDTH stays too", x.paste(1, 0, 2, 0, 1), 0);
    }

    private static void write() {
        Check.says("64", "Number i of the SLOT's row is v, cut to its WIDTH: 0.");
        CallForBrown x = Check.told(CHAIN);
        for (int slot = 0; slot <= 3; slot++) {
            x.row(slot, slot, 60);
            Check.due("write(" + slot + ", 59, 1)", x.write(slot, 59, 1), 0);
            Check.due("write(" + slot + ", 0, 2)", x.write(slot, 0, 2), 0);
            Check.due("these alone", x.disturbs(slot), 58 * 10 + 20 + 5);
            Check.due("behind 2", x.follows(slot, 2), 0);
        }
    }

    /** What is left by a WIDTH is seen as a ROOM, NONE or neither. */
    private static void writeCut() {
        Check.says("64", "Number i of the SLOT's row is v, cut to its WIDTH");
        CallForBrown x = Check.told(CHAIN);
        for (int width = 0; width <= 2; width++) {
            int bits = 8 << width;
            x.row(0, width, 1);
            x.write(0, 0, (1L << bits) + 2);
            Check.due("2 and one bit more, WIDTH " + width, x.habit(0), 2);
            x.write(0, 0, (1L << bits) - 1);
            Check.due("all bits are NONE, WIDTH " + width, x.round(0), 0);
            x.write(0, 0, -(1L << bits) + 1);
            Check.due("from below, WIDTH " + width, x.habit(0), 1);
            x.write(0, 0, 1L << bits - 1);
            Check.due("the highest bit, WIDTH " + width, x.round(0), -2);
            x.write(0, 0, (1L << bits - 1) + 2);
            Check.due("the highest bit and 2, WIDTH " + width, x.round(0), -2);
            x.write(0, 0, Long.MIN_VALUE);
            Check.due("the least, WIDTH " + width, x.habit(0), 0);
            x.write(0, 0, Long.MAX_VALUE);
            Check.due("the most, WIDTH " + width, x.round(0), 0);
        }
        x.row(0, 3, 1);
        for (long v : new long[] {Long.MIN_VALUE, Long.MAX_VALUE, 1L << 32, (1L << 32) + 1, 4294967295L, -4294967296L, 256}) {
            x.write(0, 0, v);
            Check.due("eight bytes of " + v, x.round(0), -2);
        }
        x.write(0, 0, -1);
        Check.due("eight bytes of -1", x.round(0), 0);
    }

    private static void writeRefused() {
        CallForBrown x = Check.told(CHAIN);
        Check.row(x, 1, 2, 1);
        x.row(2, 0, 0);
        String seen = Check.look(x);
        Check.says("64", "-2: there is no such SLOT; -6: it has nothing; -7: there is no such number.");
        for (int slot : NO_SLOTS) {
            Check.due("write(" + slot + ", 0, 1)", x.write(slot, 0, 1), -2);
            Check.due("write(" + slot + ", -1, 1)", x.write(slot, -1, 1), -2);
        }
        Check.due("nothing", x.write(0, 0, 1), -6);
        Check.due("nothing, ahead of -7", x.write(0, -1, 1), -6);
        for (int i : new int[] {-1, 2, 60, Integer.MIN_VALUE, Integer.MAX_VALUE}) {
            Check.due("write(1, " + i + ", 0)", x.write(1, i, 0), -7);
        }
        Check.due("write(2, 0, 0) of an empty row", x.write(2, 0, 0), -7);
        Check.stays("write() refused", x, seen);
    }

    /** A row of ROOMS 0 .. 2 is told by what its beginnings disturb; SLOT 3 is for looking. */
    private static void same(CallForBrown x, int slot, int... row) {
        int ahead = 0;
        for (int n = 1; n <= row.length; n++) {
            x.row(3, 0, n);
            x.paste(slot, 0, 3, 0, n);
            int people = x.disturbs(3);
            Check.due("number " + (n - 1) + " of " + slot, people - ahead, x.room(row[n - 1], 0));
            ahead = people;
        }
        Check.due("no number more of " + slot, x.write(slot, row.length, 0), -7);
    }

    private static void paste() {
        Check.says("65", "So many numbers of a SLOT's row, from one on, are put to another one's (or its own), from one on, "
                + "as they were: 0.");
        CallForBrown x = Check.told(CHAIN);
        Check.row(x, 0, 0, 1, 2, 1);
        Check.row(x, 1, 2, 2, 2);
        Check.due("the last to the first", x.paste(0, 3, 1, 0, 1), 0);
        same(x, 1, 1, 2, 2);
        Check.due("the first to the last", x.paste(0, 0, 1, 2, 1), 0);
        same(x, 1, 1, 2, 0);
        Check.due("as many as it has", x.paste(0, 0, 1, 0, 3), 0);
        same(x, 1, 0, 1, 2);
        same(x, 0, 0, 1, 2, 1);
        Check.due("its own, on, as they were", x.paste(0, 0, 0, 1, 3), 0);
        same(x, 0, 0, 0, 1, 2);
        Check.due("its own, back, as they were", x.paste(0, 1, 0, 0, 3), 0);
        same(x, 0, 0, 1, 2, 2);
        Check.due("its own, where they are", x.paste(0, 0, 0, 0, 4), 0);
        same(x, 0, 0, 1, 2, 2);
        x.row(1, 3, 60);
        x.row(2, 3, 60);
        x.write(1, 59, 1L << 62);
        Check.due("sixty of eight bytes", x.paste(1, 0, 2, 0, 60), 0);
        Check.due("as they were", x.habit(2), -2);
        x.write(2, 59, 2);
        Check.due("all but the last", x.disturbs(2), 595);
    }

    private static void pasteWithin() {
        Check.says("65", "So many numbers of a SLOT's row, from one on, are put to another one's (or its own), from one on");
        CallForBrown x = Check.told(CHAIN);
        Check.row(x, 0, 0, 1, 2, 1);
        Check.row(x, 1, 2, 2, 2);
        x.row(2, 0, 0);
        Check.due("none", x.paste(0, 0, 1, 0, 0), 0);
        Check.due("none behind the last", x.paste(0, 4, 1, 3, 0), 0);
        Check.due("none of an empty row", x.paste(2, 0, 1, 0, 0), 0);
        Check.due("none to an empty row", x.paste(1, 0, 2, 0, 0), 0);
        Check.due("none of an empty row to itself", x.paste(2, 0, 2, 0, 0), 0);
        same(x, 0, 0, 1, 2, 1);
        same(x, 1, 2, 2, 2);
        Check.due("the empty row stays empty", x.habit(2), -1);
    }

    private static void pasteRefused() {
        Check.says("65", "-7, and nothing happens: some are beyond their rows, or a place or n is below 0.");
        CallForBrown x = Check.told(CHAIN);
        Check.row(x, 0, 0, 1, 2, 1);
        Check.row(x, 1, 2, 2, 2);
        x.row(2, 0, 0);
        String seen = Check.look(x);
        int most = Integer.MAX_VALUE;
        int least = Integer.MIN_VALUE;
        int[][] bad = {{4, 0, 1}, {3, 0, 2}, {0, 3, 1}, {0, 2, 2}, {0, 0, 4}, {0, 0, 5}, {1, 1, 3}, {-1, 0, 1}, {0, -1, 1},
            {0, 0, -1}, {1, 1, -1}, {-1, -1, 2}, {-1, 0, 0}, {0, -1, 0}, {5, 0, 0}, {0, 4, 0}, {most, 0, 1}, {0, most, 1},
            {0, 0, most}, {most, most, most}, {1, 0, most}, {0, 1, most}, {least, 0, 1}, {0, least, 1}, {0, 0, least},
            {least, least, least}, {most, 0, least}};
        for (int[] b : bad) {
            Check.due("paste(0, " + b[0] + ", 1, " + b[1] + ", " + b[2] + ")", x.paste(0, b[0], 1, b[1], b[2]), -7);
        }
        Check.due("of an empty row", x.paste(2, 0, 1, 0, 1), -7);
        Check.due("to an empty row", x.paste(1, 0, 2, 0, 1), -7);
        Check.due("its own, beyond", x.paste(1, 0, 1, 1, 3), -7);
        Check.stays("paste() beyond", x, seen);
        same(x, 0, 0, 1, 2, 1);
        same(x, 1, 2, 2, 2);
    }

    private static void pasteOrder() {
        CallForBrown x = Check.told(CHAIN);
        Check.row(x, 0, 0, 1);
        x.row(1, 1, 2);
        Check.says("65", "-2: there is no such SLOT; -6: one has nothing; -8: they are not of one WIDTH");
        for (int slot : NO_SLOTS) {
            Check.due("paste(" + slot + ", 0, 0, 0, 1)", x.paste(slot, 0, 0, 0, 1), -2);
            Check.due("paste(0, 0, " + slot + ", 0, 1)", x.paste(0, 0, slot, 0, 1), -2);
            Check.due("from nothing to " + slot, x.paste(2, -1, slot, 0, 1), -2);
            Check.due("from " + slot + " to nothing", x.paste(slot, -1, 2, 0, 1), -2);
        }
        Check.due("from nothing", x.paste(2, 0, 0, 0, 1), -6);
        Check.due("to nothing", x.paste(0, 0, 2, 0, 1), -6);
        Check.due("nothing to itself", x.paste(2, 0, 2, 0, 0), -6);
        Check.due("nothing, ahead of -7", x.paste(0, -1, 2, -1, -1), -6);
        Check.due("one byte and two", x.paste(0, 0, 1, 0, 1), -8);
        Check.due("two bytes and one", x.paste(1, 0, 0, 0, 1), -8);
        Check.due("of none too", x.paste(0, 0, 1, 0, 0), -8);
        Check.due("-8 ahead of -7", x.paste(0, 9, 1, -1, -1), -8);
        x.row(1, 0, 2);
        Check.due("of one WIDTH now", x.paste(0, 0, 1, 0, 2), 0);
    }
}
