/** The edges that promises 45 to 52 name, a sentence each. */
public final class MenEdgeTest {
    private static final String FIRST = "house moves 50 here 80 worth 100 price 5;";
    private static final String THREE = FIRST + "man weighs 3 yes 0 2;man weighs 2 yes 0;man weighs 1;";
    /** Each says yes to a QUESTION of his own: it takes one by one. */
    private static final String SIX = FIRST + "man weighs 1 yes 0;man weighs 2 yes 1;man weighs 3 yes 2;"
            + "man weighs 4 yes 3;man weighs 5 yes 4;man weighs 6 yes 5;";
    private static final String LIKE = FIRST + "man weighs 1 yes 1;man weighs 9 yes 1;man weighs 1;";
    /** No set of three MEN. */
    private static final int[] NO_SETS = {0, -1, 8, 9, 15, 16, 64, Integer.MIN_VALUE, Integer.MAX_VALUE};
    private static final int[] NO_MEN = {-1, 3, 6, Integer.MIN_VALUE, Integer.MAX_VALUE};
    private static final int[] NO_WHATS = {-1, 2, Integer.MIN_VALUE, Integer.MAX_VALUE};

    public static void main(String[] args) {
        which();
        question();
        yes();
        list();
        meant();
        meantRefused();
        read();
        readOfMuch();
        readRefused();
        guess();
        right();
        nothingHappens();
        Check.finish();
    }

    private static void which() {
        Check.says("45", "the fewest QUESTIONS that surely tell which of a set of MEN (bits, 1 and above) is meant.");
        CallForBrown x = Check.told(THREE);
        CallForBrown six = Check.told(SIX);
        for (int man = 0; man < 3; man++) {
            Check.due("which of one, " + man, x.which(1 << man), 0);
        }
        Check.due("which(7), the greatest set", x.which(7), 2);
        Check.due("which(63)", six.which(63), 5);
        Check.due("which(32)", six.which(32), 0);
        Check.due("which(48)", six.which(48), 1);
        CallForBrown halves = Check.told(FIRST + "man weighs 1 yes 0 1 2;man weighs 1 yes 0 1;man weighs 1 yes 0 2;"
                + "man weighs 1 yes 1 2;man weighs 1 yes 1;man weighs 1 yes 2;");
        Check.due("which(63) by halves", halves.which(63), 3);
        CallForBrown best = Check.told(FIRST + "man weighs 1 yes 0 1 2;man weighs 1 yes 1;man weighs 1 yes 2;man weighs 1;");
        Check.due("not by what parts one off", best.which(15), 2);
        Check.due("but by QUESTION 1", best.question(15), 1);
        Check.says("45", "NONE: they can't; -2: there is no such set, no HOUSE.");
        CallForBrown like = Check.told(LIKE);
        Check.due("two like ones", like.which(3), -1);
        Check.due("two like ones of three", like.which(7), -1);
        Check.due("two unlike ones", like.which(5), 1);
        for (int set : NO_SETS) {
            Check.due("which(" + set + ")", x.which(set), -2);
        }
        Check.due("which(64) of six", six.which(64), -2);
        Check.due("which(1) without MEN", Check.told(FIRST).which(1), -2);
        Check.due("which(1) without a HOUSE", new CallForBrown().which(1), -2);
        Check.due("which(0) without a HOUSE", new CallForBrown().which(0), -2);
    }

    private static void question() {
        Check.says("46", "The least QUESTION that is asked first so.");
        CallForBrown x = Check.told(THREE);
        CallForBrown six = Check.told(SIX);
        Check.due("question(7)", x.question(7), 0);
        Check.due("question(3)", x.question(3), 2);
        Check.due("question(63)", six.question(63), 0);
        Check.due("question(62)", six.question(62), 1);
        Check.due("question(48), the least that parts them", six.question(48), 4);
        CallForBrown last = Check.told(FIRST + "man weighs 1 yes 5;man weighs 1;");
        Check.due("QUESTION 5", last.question(3), 5);
        Check.says("46", "NONE: none is needed, they can't; -2 likewise.");
        for (int man = 0; man < 3; man++) {
            Check.due("question of one, " + man, x.question(1 << man), -1);
        }
        CallForBrown like = Check.told(LIKE);
        Check.due("they can't", like.question(3), -1);
        Check.due("they can't, of three", like.question(7), -1);
        for (int set : NO_SETS) {
            Check.due("question(" + set + ")", x.question(set), -2);
        }
        Check.due("question(64) of six", six.question(64), -2);
        Check.due("without MEN", Check.told(FIRST).question(1), -2);
        Check.due("without a HOUSE", new CallForBrown().question(1), -2);
    }

    private static void yes() {
        Check.says("47", "MEN who say yes of a set.");
        CallForBrown x = Check.told(THREE);
        CallForBrown six = Check.told(SIX);
        Check.due("nobody", x.yes(7, 5), 0);
        Check.due("of one", x.yes(4, 0), 0);
        Check.due("all of it", x.yes(3, 0), 3);
        Check.due("of the set alone", x.yes(6, 0), 2);
        Check.due("the last of six", six.yes(63, 5), 32);
        Check.says("47", "-2 likewise, no such QUESTION.");
        Check.due("yes(7, 6)", x.yes(7, 6), -2);
        Check.due("yes(7, -1)", x.yes(7, -1), -2);
        Check.due("yes(7, least)", x.yes(7, Integer.MIN_VALUE), -2);
        Check.due("yes(7, most)", x.yes(7, Integer.MAX_VALUE), -2);
        for (int set : NO_SETS) {
            Check.due("yes(" + set + ", 0)", x.yes(set, 0), -2);
        }
        Check.due("yes(64, 0) of six", six.yes(64, 0), -2);
        Check.due("without MEN", Check.told(FIRST).yes(1, 0), -2);
        Check.due("without a HOUSE", new CallForBrown().yes(1, 0), -2);
    }

    private static void list() {
        Check.says("48", "The least QUESTIONS (bits) of which all the answers together tell all MEN of a set apart "
                + "(fewest, then the least).");
        CallForBrown x = Check.told(THREE);
        CallForBrown six = Check.told(SIX);
        Check.due("none is needed of one", x.list(4), 0);
        Check.due("list(7)", x.list(7), 5);
        Check.due("list(63)", six.list(63), 31);
        Check.due("list(48)", six.list(48), 16);
        // 0 and 1 together, or 5 alone: one is fewer, 3 is less.
        CallForBrown few = Check.told(FIRST + "man weighs 1 yes 5;man weighs 1;");
        Check.due("the fewest", few.list(3), 32);
        CallForBrown like = Check.told(FIRST + "man weighs 1 yes 3 4 5;man weighs 1;");
        Check.due("the least of as many", like.list(3), 8);
        CallForBrown four = Check.told(FIRST + "man weighs 1;man weighs 1 yes 0 3;man weighs 1 yes 1 4;man weighs 1 yes 2 3 4;");
        Check.due("two ahead of the lesser three", four.list(15), 24);
        Check.says("48", "NONE: none do; -2 likewise.");
        CallForBrown alike = Check.told(LIKE);
        Check.due("like ones", alike.list(3), -1);
        Check.due("like ones of three", alike.list(7), -1);
        Check.due("one of the like ones", alike.list(5), 2);
        Check.due("the other of them", alike.list(6), 2);
        for (int set : NO_SETS) {
            Check.due("list(" + set + ")", x.list(set), -2);
        }
        Check.due("list(64) of six", six.list(64), -2);
        Check.due("without MEN", Check.told(FIRST).list(1), -2);
        Check.due("without a HOUSE", new CallForBrown().list(1), -2);
    }

    private static void meant(CallForBrown x, int set, int man, int above, int below) {
        Check.due("meant(" + set + ", " + man + ", 0)", x.meant(set, man, 0), above);
        Check.due("meant(" + set + ", " + man + ", 1)", x.meant(set, man, 1), below);
    }

    private static void meant() {
        Check.says("49", "The chance that a MAN is meant who stands in a set, above (what 0), below (1).");
        CallForBrown x = Check.told(THREE);
        meant(x, 7, 0, 1, 2);
        meant(x, 7, 1, 1, 3);
        meant(x, 7, 2, 1, 6);
        meant(x, 5, 0, 3, 4);
        meant(x, 2, 1, 1, 1);
        CallForBrown most = Check.told(FIRST + "man weighs 98;man weighs 99;man weighs 99;man weighs 99;man weighs 99;man weighs 99;");
        meant(most, 63, 5, 99, 593);
        meant(most, 63, 0, 98, 593);
        meant(most, 62, 5, 1, 5);
    }

    private static void meantRefused() {
        Check.says("49", "-2: there are none such, no HOUSE.");
        CallForBrown x = Check.told(THREE);
        for (int what = 0; what <= 1; what++) {
            Check.due("0 does not stand in 6, " + what, x.meant(6, 0, what), -2);
            Check.due("2 does not stand in 3, " + what, x.meant(3, 2, what), -2);
            for (int set : NO_SETS) {
                Check.due("meant(" + set + ", 0, " + what + ")", x.meant(set, 0, what), -2);
            }
            for (int man : NO_MEN) {
                Check.due("meant(7, " + man + ", " + what + ")", x.meant(7, man, what), -2);
            }
            Check.due("without MEN, " + what, Check.told(FIRST).meant(1, 0, what), -2);
            Check.due("without a HOUSE, " + what, new CallForBrown().meant(1, 0, what), -2);
        }
        for (int what : NO_WHATS) {
            Check.due("meant(7, 0, " + what + ")", x.meant(7, 0, what), -2);
        }
        // A shift by 32 is none: 32 is no MAN of a set.
        Check.due("meant(1, 32, 0)", x.meant(1, 32, 0), -2);
    }

    private static void read(CallForBrown x, int man, int as, long above, long below) {
        Check.due("read(" + man + ", " + as + ", 0)", x.read(man, as, 0), above);
        Check.due("read(" + man + ", " + as + ", 1)", x.read(man, as, 1), below);
    }

    private static void read() {
        Check.says("50", "READ: the chance that it is one MAN, if another (or he) was read, above (what 0), below (1)");
        CallForBrown x = Check.told(THREE + "slate 0 as 1 3;slate 1 as 1 2;");
        read(x, 0, 0, 1, 1);
        read(x, 0, 1, 9, 17);
        read(x, 1, 1, 8, 17);
        read(x, 2, 1, 0, 1);
        Check.says("50", "0 / 1, if none is read so.");
        CallForBrown never = Check.told(THREE + "slate 1 as 1 0;slate 1 as 0 1;");
        for (int man = 0; man < 3; man++) {
            read(never, man, 1, 0, 1);
        }
        read(never, 0, 0, 3, 5);
        read(never, 1, 0, 2, 5);
        CallForBrown blank = Check.told(THREE + "slate 1 as 1 0;");
        read(blank, 1, 1, 1, 1);
    }

    /** What the slate has in all is 53, 47, 43, 41, 37, 31: the terms are beyond an int. */
    private static void readOfMuch() {
        Check.says("50", "the chance that it is one MAN, if another (or he) was read");
        int[] weighs = {97, 89, 83, 79, 73, 71};
        int[][] slate = {{9, 9, 9, 9, 9, 8}, {8, 9, 9, 9, 9, 3}, {9, 7, 9, 9, 9, 0}, {9, 9, 5, 9, 9, 0}, {9, 9, 9, 1, 9, 0},
            {9, 9, 9, 4, 0, 0}};
        StringBuilder text = new StringBuilder(FIRST);
        for (int man = 0; man < 6; man++) {
            text.append("man weighs ").append(weighs[man]).append(';');
        }
        for (int man = 0; man < 6; man++) {
            for (int as = 0; as < 6; as++) {
                text.append("slate ").append(man).append(" as ").append(as).append(' ').append(slate[man][as]).append(';');
            }
        }
        CallForBrown x = Check.told(text.toString());
        read(x, 0, 0, 82971287991L, 527414556217L);
        read(x, 3, 0, 1105727499L, 6676133623L);
        read(x, 5, 1, 103831379019L, 517507142992L);
        read(x, 4, 3, 9938265479L, 399762866367L);
        read(x, 4, 4, 320589209L, 1552407565L);
        read(x, 5, 4, 0, 1);
        read(x, 1, 5, 14151, 50623);
        Check.due("guess(0)", x.guess(0), 5);
        Check.due("guess(3)", x.guess(3), 2);
        Check.due("guess(4)", x.guess(4), 4);
        Check.due("guess(5)", x.guess(5), 0);
        Check.due("right(0)", x.right(0), 4657222695L);
        Check.due("right(1)", x.right(1), 26648429044L);
    }

    private static void readRefused() {
        Check.says("50", "-2: there are none such.");
        CallForBrown x = Check.told(THREE);
        for (int what = 0; what <= 1; what++) {
            for (int man : NO_MEN) {
                Check.due("read(" + man + ", 0, " + what + ")", x.read(man, 0, what), -2);
                Check.due("read(0, " + man + ", " + what + ")", x.read(0, man, what), -2);
            }
            Check.due("without MEN, " + what, Check.told(FIRST).read(0, 0, what), -2);
            Check.due("without a HOUSE, " + what, new CallForBrown().read(0, 0, what), -2);
        }
        for (int what : NO_WHATS) {
            Check.due("read(0, 0, " + what + ")", x.read(0, 0, what), -2);
        }
    }

    private static void guess() {
        Check.says("51", "The MAN who is likeliest then, the first of several.");
        CallForBrown x = Check.told(FIRST + "man weighs 2;man weighs 1;man weighs 1;slate 0 as 1 1;slate 2 as 2 0;slate 2 as 1 1;");
        // As 1 are read a half of 2, the 1 and the other 1.
        Check.due("three like ones", x.guess(1), 0);
        Check.due("himself", x.guess(0), 0);
        CallForBrown last = Check.told(FIRST + "man weighs 2;man weighs 1;man weighs 3;slate 0 as 1 1;slate 2 as 1 1;");
        // 1, 1 and a half more.
        Check.due("the last", last.guess(1), 2);
        Check.due("one MAN", Check.told(FIRST + "man weighs 1;").guess(0), 0);
        Check.says("51", "NONE: none is read so; -2: there is none such.");
        Check.due("none is read as 2", x.guess(2), -1);
        for (int man : NO_MEN) {
            Check.due("guess(" + man + ")", x.guess(man), -2);
        }
        Check.due("without MEN", Check.told(FIRST).guess(0), -2);
        Check.due("without a HOUSE", new CallForBrown().guess(0), -2);
    }

    private static void right() {
        Check.says("52", "The chance that he who is read is he who is meant, above (what 0), below (1).");
        CallForBrown sure = Check.told(THREE);
        Check.due("surely", sure.right(0), 1);
        Check.due("surely, below", sure.right(1), 1);
        CallForBrown never = Check.told(FIRST + "man weighs 5;man weighs 7;slate 0 as 0 0;slate 0 as 1 1;"
                + "slate 1 as 1 0;slate 1 as 0 1;");
        Check.due("never", never.right(0), 0);
        Check.due("never, below", never.right(1), 1);
        CallForBrown half = Check.told(FIRST + "man weighs 5;man weighs 5;slate 0 as 1 1;slate 1 as 0 1;");
        Check.due("a half", half.right(0), 1);
        Check.due("a half, below", half.right(1), 2);
        Check.due("one MAN", Check.told(FIRST + "man weighs 1;").right(0), 1);
        Check.due("one MAN, below", Check.told(FIRST + "man weighs 1;").right(1), 1);
        Check.says("52", "-2: there are no MEN, no such what.");
        for (int what : NO_WHATS) {
            Check.due("right(" + what + ")", sure.right(what), -2);
        }
        for (int what = 0; what <= 1; what++) {
            Check.due("without MEN, " + what, Check.told(FIRST).right(what), -2);
            Check.due("without a HOUSE, " + what, new CallForBrown().right(what), -2);
        }
    }

    private static void nothingHappens() {
        Check.says("45", "WHICH");
        CallForBrown x = Check.told(THREE + "slate 0 as 1 3;");
        String seen = Check.look(x);
        for (int set = -1; set <= 8; set++) {
            x.which(set);
            x.question(set);
            x.yes(set, 1);
            x.list(set);
            x.meant(set, 1, 0);
            x.read(set, 0, 0);
            x.guess(set);
            x.right(set);
        }
        Check.stays("all that ask about MEN", x, seen);
    }
}
