/** Promises 25 to 32: changed, fits, couples, doubters, jokes and foes. */
public final class MindsTest {
    private static final Check CHECK = new Check();
    private static final String FIVE = "slack 1;ask a;ask b;man m 5 a yes 6;man n 3 a no 6;man o 2 a yes 4;"
            + "man p 3 a no 3;man q 0;";

    public static void main(String[] args) {
        changed();
        fits();
        couples();
        doubters();
        jokes();
        foes();
        CHECK.finish();
    }

    private static void changed() {
        OpinionFerry x = Check.made(FIVE);
        CHECK.due("it balances", -1, x.changed(3));
        CHECK.due("nobody balances", -1, x.changed(0));
        CHECK.due("none", 0, x.changed(1));
        // 6 + 4: with m the other way -2, with o 2
        CHECK.due("none by too much", 0, x.changed(5));
        // 6 - 6 + 4 - 3 = 1 balances; 6 - 3 = 3: m gives -9, p gives 9
        CHECK.due("all four balance", -1, x.changed(15));
        CHECK.due("none of m and p", 0, x.changed(9));
        // -6 + 4 - 3 = -5: n 7, o -13, p 1
        CHECK.due("p", 8, x.changed(14));
        CHECK.due("with q, who says nothing", 8, x.changed(30));
        x.hire(3);
        // p is hired: -6 + 4 = -2: n 10, o -10; his other saying changes nothing
        CHECK.due("hired ones change nothing", 0, x.changed(14));
        CHECK.due("no such one", -1, x.changed(32));
        CHECK.due("below 0", -1, x.changed(-1));
        CHECK.due("no ASKS", -1, Check.made("man m 1;").changed(1));
        OpinionFerry y = Check.made("ask a;man m 1 a yes 2;man n 1 a yes 2;");
        CHECK.due("each of both", 3, y.changed(3));
        y.cross(3);
        CHECK.due("wherever they are", 3, y.changed(3));
    }

    private static void fits() {
        OpinionFerry x = Check.made(FIVE);
        CHECK.due("ahead of any", -101, x.fit(0));
        CHECK.due("5 to 7", 3, Check.fits(x, 0, 3));
        CHECK.due("least", 5, x.fit(0));
        CHECK.due("greatest", 7, x.fit(1));
        CHECK.due("another what", -101, x.fit(2));
        CHECK.due("another what", -101, x.fit(-1));
        CHECK.due("the tape is empty", 0, x.count(5));
        CHECK.due("alone", 3, Check.fits(x, 0, 1));
        CHECK.due("least", -1, x.fit(0));
        CHECK.due("never both", 0, Check.fits(x, 0, 1, 3));
        CHECK.due("the latest that was", 1, x.fit(1));
        CHECK.due("sets without him", 19, Check.fits(x, 4, 1, 0, 15));
        CHECK.due("least", -9, x.fit(0));
        CHECK.due("greatest", 9, x.fit(1));
        CHECK.due("odd bytes", -1, fitsBytes(x, 0, "\0\3\0"));
        CHECK.due("the tape is empty", 0, x.count(5));
        CHECK.due("no bytes", -1, fitsBytes(x, 0, ""));
        CHECK.due("forty bytes", 3, fitsBytes(x, 0, "\0\3".repeat(20)));
        CHECK.due("two more", -1, fitsBytes(x, 0, "\0\3".repeat(21)));
        CHECK.due("no such one in a set", -1, Check.fits(x, 0, 3, 32));
        CHECK.due("nor by the higher byte", -1, Check.fits(x, 0, 3, 256));
        CHECK.due("no such man", -1, Check.fits(x, 5, 3));
        CHECK.due("the tape is empty", 0, x.count(5));
        CHECK.due("no such man", -1, Check.fits(x, -1, 3));
        CHECK.due("fit stays", 7, x.fit(1));
        x.hire(0);
        CHECK.due("he is hired, and n alone does not balance", 0, Check.fits(x, 0, 3));
        CHECK.due("he is hired: whatever he said", 19, Check.fits(x, 0, 17));
        x.undo();
        x.hire(1);
        CHECK.due("n is hired", 3, Check.fits(x, 0, 3));
        CHECK.due("least", -1, x.fit(0));
        CHECK.due("no ASKS", -1, Check.fits(Check.made("man m 1;"), 0, 1));
        OpinionFerry y = Check.made("ask a;man m 1;man n 1 a yes 9;man o 1 a yes 9;");
        CHECK.due("no way", 0, Check.fits(y, 0, 7));
        CHECK.due("ahead of any that was", -101, y.fit(0));
        CHECK.due("the outermost one", 1, Check.fits(y, 0, 3));
        CHECK.due("it is", -9, y.fit(1));
    }

    private static int fitsBytes(OpinionFerry x, int m, String bytes) {
        Check.feed(x, bytes);
        return x.fits(m);
    }

    private static void couples() {
        OpinionFerry x = Check.made("seats 1;slack 1;ask a;man m 1;man n 1;man o 1;man p 1 a yes 2;man q 1 a no 2;man r 1 a yes 9;");
        CHECK.due("ahead of any", -1, x.couple(0));
        CHECK.due("two, whatever the seats", 2, x.couples());
        int[] mates = {1, 0, -1, 4, 3, -1};
        for (int m = 0; m < mates.length; m++) {
            CHECK.due("mate of " + m, mates[m], x.couple(m));
        }
        CHECK.due("no such one", -1, x.couple(6));
        CHECK.due("no such one", -1, x.couple(-1));
        x.cross(1);
        CHECK.due("wherever they are", 2, x.couples());
        x.hire(5);
        CHECK.due("a hired one goes with any", 3, x.couples());
        CHECK.due("o with r", 5, x.couple(2));
        x.undo();
        CHECK.due("by the latest couples", 5, x.couple(2));
        // m can go with n or o, n with m alone: most pairs come ahead of the least mate
        OpinionFerry y = Check.made("ask a;man m 1 a yes 1;man n 1 a no 1;man o 1 a yes 1;man p 1 a no 1;");
        y.turn(1, 0, -2);
        y.turn(2, 0, 2);
        CHECK.due("two pairs", 2, y.couples());
        CHECK.due("m with p", 3, y.couple(0));
        CHECK.due("n with o", 2, y.couple(1));
        CHECK.due("no MEN", 0, Check.made("ask a;").couples());
        OpinionFerry z = Check.made("man m 1;man n 1;");
        CHECK.due("no ASKS", 0, z.couples());
        CHECK.due("alone", -1, z.couple(0));
        OpinionFerry w = Check.made("slack 9;ask a;ask b;ask c;man m 1 b yes 5 c yes 5;man n 1 b yes 5 c no 5;");
        CHECK.due("foes are no couple", 0, w.couples());
    }

    private static void doubters() {
        OpinionFerry x = Check.made(FIVE);
        CHECK.due("it balances", 0, x.doubters(3));
        CHECK.due("nobody", 0, x.doubters(0));
        CHECK.due("himself", 1, x.doubters(1));
        // 6 + 4: m for 5 leaves 4, o for 2 leaves 6: both
        CHECK.due("both", 5, x.doubters(5));
        // 6 - 6 + 4 = 4: o for 2
        CHECK.due("the cheapest", 4, x.doubters(7));
        // -6 - 3: both; n and p cost 3 each
        CHECK.due("n and p", 10, x.doubters(10));
        x.hire(1);
        CHECK.due("p anew alone", 8, x.doubters(10));
        CHECK.due("no such one", -1, x.doubters(32));
        CHECK.due("below 0", -1, x.doubters(-2));
        CHECK.due("no ASKS", -1, Check.made("man m 1;").doubters(1));
        // 2 + 2 + 4 + 4 = 12, slack 4: the two of 4 for 2 + 2, or m, n, o (1 + 1 + 2)
        OpinionFerry y = Check.made("slack 4;ask a;man m 1 a yes 2;man n 1 a yes 2;man o 2 a yes 4;man p 2 a yes 4;");
        CHECK.due("of like wages the fewest", 12, y.doubters(15));
        OpinionFerry z = Check.made("ask a;man m 0 a yes 3;man n 0 a yes 3;man o 0 a no 3;");
        CHECK.due("of like ones the least as bits", 1, z.doubters(7));
    }

    private static void joke(OpinionFerry x, int set, int above, int below) {
        CHECK.due("above of " + set, above, x.jokes(set, 0));
        CHECK.due("below of " + set, below, x.jokes(set, 1));
    }

    private static void jokes() {
        OpinionFerry x = Check.made("ask a;man m 1 a yes 1;man n 1 a no 1;man o 1;man p 1 a yes 9;");
        joke(x, 0, 1, 1);
        joke(x, 4, 1, 2);
        joke(x, 1, 1, 4);
        joke(x, 8, 0, 1);
        // two of them: 1 4 6 4 1 of 16
        joke(x, 3, 3, 8);
        joke(x, 5, 1, 4);
        // three: 1 6 15 20 15 6 1 of 64
        joke(x, 7, 5, 16);
        x.hire(0);
        joke(x, 1, 1, 1);
        joke(x, 5, 1, 2);
        OpinionFerry y = Check.made("slack 9;ask a;man m 1 a yes 9;man n 1;");
        // 9 and a joke more is 10: what is said then has no bound
        joke(y, 1, 3, 4);
        joke(y, 2, 1, 1);
        joke(y, 3, 11, 16);
        CHECK.dueThrow("another what", () -> y.jokes(1, 2));
        CHECK.dueThrow("another what", () -> y.jokes(1, -1));
        CHECK.dueThrow("no such one", () -> y.jokes(4, 0));
        CHECK.dueThrow("below 0", () -> y.jokes(-1, 0));
        CHECK.dueThrow("no ASKS", () -> Check.made("man m 1;").jokes(0, 0));
        StringBuilder ten = new StringBuilder("ask a;");
        for (char c = 'b'; c < 'l'; c++) {
            ten.append("man ").append(c).append(" 1;");
        }
        // 184756 of 1048576
        joke(Check.made(ten.toString()), 1023, 46189, 262144);
    }

    private static void foes() {
        OpinionFerry x = Check.made("ask a;ask b;man m 1 a yes 5 b yes 5;man n 1 a yes 9 b no 6;man o 1 a no 5 b no 5;"
                + "man p 1 a yes 4 b no 9;man q 1 a no 9 b yes 9;");
        int[] foes = {1, 4, 12, 24};
        CHECK.due("how many", foes.length, x.foes(-1));
        for (int k = 0; k < foes.length; k++) {
            CHECK.due("foes " + k, foes[k], x.foes(k));
        }
        CHECK.due("none such", -1, x.foes(4));
        CHECK.due("none such", -1, x.foes(-2));
        x.lie(3, 0, 5);
        CHECK.due("as they speak now", 6, x.foes(-1));
        CHECK.due("m and p", 3, x.foes(1));
        x.hire(0);
        x.hire(1);
        CHECK.due("hired ones, too", 1, x.foes(0));
        CHECK.due("nobody", 0, new OpinionFerry().foes(-1));
    }
}
