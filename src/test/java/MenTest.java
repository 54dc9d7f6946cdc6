/** Promises 45 to 52: which MAN is meant, by QUESTIONS and by what was read. */
public final class MenTest {
    private static final String FIRST = "house moves 50 here 80 worth 100 price 5;";
    private static final String THREE = FIRST + "man weighs 3 yes 0 2;man weighs 2 yes 0;man weighs 1;";

    public static void main(String[] args) {
        questions();
        askedInTurn();
        bestFirst();
        likeMen();
        lists();
        meant();
        read();
        slateOfNothing();
        wrongInputs();
        Check.finish();
    }

    private static void questions() {
        CallForBrown x = Check.told(THREE);
        Check.due("which(7)", x.which(7), 2);
        Check.due("question(7)", x.question(7), 0);
        Check.due("which(3)", x.which(3), 1);
        Check.due("question(3)", x.question(3), 2);
        Check.due("which(6)", x.which(6), 1);
        Check.due("question(6)", x.question(6), 0);
        Check.due("which(4)", x.which(4), 0);
        Check.due("which(1)", x.which(1), 0);
        Check.due("question(1)", x.question(1), -1);
        Check.due("yes(1, 0)", x.yes(1, 0), 1);
        Check.due("list(1)", x.list(1), 0);
        Check.due("question(4)", x.question(4), -1);
        Check.due("yes(7, 0)", x.yes(7, 0), 3);
        Check.due("yes(6, 0)", x.yes(6, 0), 2);
        Check.due("yes(7, 2)", x.yes(7, 2), 1);
        Check.due("yes(7, 5)", x.yes(7, 5), 0);
    }

    /** QUESTION 1 parts the one half, 2 the other: asked in turn two do, all at once it takes three. */
    private static void askedInTurn() {
        CallForBrown x = Check.told(FIRST + "man weighs 1 yes 0 1;man weighs 1 yes 0;man weighs 1 yes 2;man weighs 1;");
        Check.due("which(15)", x.which(15), 2);
        Check.due("question(15)", x.question(15), 0);
        Check.due("list(15)", x.list(15), 7);
    }

    private static void bestFirst() {
        CallForBrown x = Check.told(FIRST + "man weighs 1 yes 0 1 2;man weighs 1 yes 1;man weighs 1 yes 2;man weighs 1;");
        Check.due("which(15)", x.which(15), 2);
        Check.due("not the first that parts", x.question(15), 1);
        CallForBrown line = Check.told(FIRST + "man weighs 1 yes 0;man weighs 1 yes 1;man weighs 1 yes 2;"
                + "man weighs 1 yes 3;man weighs 1 yes 4;man weighs 1 yes 5;");
        Check.due("one by one", line.which(63), 5);
        Check.due("the least of like ones", line.question(63), 0);
        Check.due("five of six tell all", line.list(63), 31);
    }

    private static void likeMen() {
        CallForBrown x = Check.told(FIRST + "man weighs 1 yes 1;man weighs 9 yes 1;man weighs 1;");
        Check.due("which(3)", x.which(3), -1);
        Check.due("question(3)", x.question(3), -1);
        Check.due("list(3)", x.list(3), -1);
        Check.due("which(7)", x.which(7), -1);
        Check.due("question(7)", x.question(7), -1);
        Check.due("which(5)", x.which(5), 1);
        Check.due("which(2)", x.which(2), 0);
    }

    private static void lists() {
        CallForBrown x = Check.told(THREE);
        Check.due("list(7)", x.list(7), 5);
        Check.due("list(3)", x.list(3), 4);
        Check.due("list(6)", x.list(6), 1);
        Check.due("list(4)", x.list(4), 0);
        Check.due("list(5)", x.list(5), 1);
        // QUESTION 5 alone does what 0 and 1 do together: fewest goes ahead of least.
        CallForBrown few = Check.told(FIRST + "man weighs 1 yes 5;man weighs 1;man weighs 1 yes 0 1 5;");
        Check.due("fewest, then least", few.list(3), 32);
        Check.due("two are needed", few.list(7), 33);
        // 0, 1, 2 tell them apart too, and 7 is less than 24, but they are three.
        CallForBrown four = Check.told(FIRST + "man weighs 1;man weighs 1 yes 0 3;man weighs 1 yes 1 4;man weighs 1 yes 2 3 4;");
        Check.due("fewest ahead of least", four.list(15), 24);
    }

    private static void meant() {
        CallForBrown x = Check.told(THREE);
        Check.due("meant(7, 0, 0)", x.meant(7, 0, 0), 1);
        Check.due("meant(7, 0, 1)", x.meant(7, 0, 1), 2);
        Check.due("meant(7, 1, 0)", x.meant(7, 1, 0), 1);
        Check.due("meant(7, 1, 1)", x.meant(7, 1, 1), 3);
        Check.due("meant(3, 0, 0)", x.meant(3, 0, 0), 3);
        Check.due("meant(3, 0, 1)", x.meant(3, 0, 1), 5);
        Check.due("meant(4, 2, 0)", x.meant(4, 2, 0), 1);
        Check.due("meant(4, 2, 1)", x.meant(4, 2, 1), 1);
        Check.due("who does not stand in it", x.meant(6, 0, 0), -2);
        Check.due("meant(7, 3, 0)", x.meant(7, 3, 0), -2);
        Check.due("meant(7, -1, 0)", x.meant(7, -1, 0), -2);
        Check.due("meant(7, 0, 2)", x.meant(7, 0, 2), -2);
        Check.due("meant(7, 0, -1)", x.meant(7, 0, -1), -2);
        Check.due("meant(8, 0, 0)", x.meant(8, 0, 0), -2);
    }

    private static void chance(CallForBrown x, int man, int as, long above, long below) {
        Check.due("read(" + man + ", " + as + ", 0)", x.read(man, as, 0), above);
        Check.due("read(" + man + ", " + as + ", 1)", x.read(man, as, 1), below);
    }

    private static void read() {
        CallForBrown x = Check.told(THREE + "slate 0 as 1 3;slate 1 as 1 2;");
        chance(x, 0, 1, 9, 17);
        chance(x, 1, 1, 8, 17);
        chance(x, 2, 1, 0, 1);
        chance(x, 0, 0, 1, 1);
        chance(x, 1, 0, 0, 1);
        chance(x, 2, 2, 1, 1);
        Check.due("guess(1)", x.guess(1), 0);
        Check.due("guess(0)", x.guess(0), 0);
        Check.due("guess(2)", x.guess(2), 2);
        Check.due("right(0)", x.right(0), 5);
        Check.due("right(1)", x.right(1), 8);
        CallForBrown sure = Check.told(THREE);
        Check.due("right(0) of all", sure.right(0), 1);
        Check.due("right(1) of all", sure.right(1), 1);
        CallForBrown never = Check.told(FIRST + "man weighs 1;man weighs 1;slate 0 as 0 0;slate 0 as 1 1;"
                + "slate 1 as 1 0;slate 1 as 0 1;");
        Check.due("right(0) of none", never.right(0), 0);
        Check.due("right(1) of none", never.right(1), 1);
        Check.due("guess(0) of none", never.guess(0), 1);
        CallForBrown single = Check.told(FIRST + "man weighs 7;");
        Check.due("right(0) of one", single.right(0), 1);
        Check.due("guess(0) of one", single.guess(0), 0);
        CallForBrown even = Check.told(FIRST + "man weighs 2;man weighs 1;slate 0 as 1 1;");
        chance(even, 0, 1, 1, 2);
        Check.due("the first of several", even.guess(1), 0);
    }

    private static void slateOfNothing() {
        CallForBrown x = Check.told(THREE + "slate 1 as 1 0;slate 1 as 0 5;slate 2 as 2 0;");
        chance(x, 1, 1, 0, 1);
        chance(x, 0, 1, 0, 1);
        Check.due("none is read so", x.guess(1), -1);
        chance(x, 0, 0, 3, 5);
        chance(x, 1, 0, 2, 5);
        // All that 2 has is 0, so he is read as himself.
        chance(x, 2, 2, 1, 1);
        Check.due("slate(2, 2)", x.slate(2, 2), 0);
        Check.due("guess(2)", x.guess(2), 2);
        Check.due("right(0)", x.right(0), 2);
        Check.due("right(1)", x.right(1), 3);
    }

    private static void wrongInputs() {
        CallForBrown x = Check.told(THREE);
        CallForBrown none = new CallForBrown();
        CallForBrown empty = Check.told(FIRST);
        for (int set : new int[] {0, -1, 8, 64, Integer.MIN_VALUE, Integer.MAX_VALUE}) {
            Check.due("which(" + set + ")", x.which(set), -2);
            Check.due("question(" + set + ")", x.question(set), -2);
            Check.due("yes(" + set + ", 0)", x.yes(set, 0), -2);
            Check.due("list(" + set + ")", x.list(set), -2);
            Check.due("meant(" + set + ", 0, 0)", x.meant(set, 0, 0), -2);
        }
        Check.due("yes(7, 6)", x.yes(7, 6), -2);
        Check.due("yes(7, -1)", x.yes(7, -1), -2);
        Check.due("read(3, 0, 0)", x.read(3, 0, 0), -2);
        Check.due("read(0, 3, 0)", x.read(0, 3, 0), -2);
        Check.due("read(-1, 0, 0)", x.read(-1, 0, 0), -2);
        Check.due("read(0, -1, 0)", x.read(0, -1, 0), -2);
        Check.due("read(0, 0, 2)", x.read(0, 0, 2), -2);
        Check.due("read(0, 0, -1)", x.read(0, 0, -1), -2);
        Check.due("guess(3)", x.guess(3), -2);
        Check.due("guess(-1)", x.guess(-1), -2);
        Check.due("right(2)", x.right(2), -2);
        Check.due("right(-1)", x.right(-1), -2);
        Check.due("no house which", none.which(1), -2);
        Check.due("no house meant", none.meant(1, 0, 0), -2);
        Check.due("no men which", empty.which(1), -2);
        Check.due("no men read", empty.read(0, 0, 0), -2);
        Check.due("no men guess", empty.guess(0), -2);
        Check.due("no men right", empty.right(0), -2);
    }
}
