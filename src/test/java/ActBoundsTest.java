/** "Terms", 2, and promises 1 to 16: each sentence that names a bound has a test of its own here. */
public final class ActBoundsTest {
    private static final Check CHECK = new Check();
    private static final int LEAST = Integer.MIN_VALUE;
    private static final int GREATEST = Integer.MAX_VALUE;
    /** m and n balance; o, p and q think nothing; q is m's child. */
    private static final String FOLK = "seats 3;slack 1;ask a;ask b;man m 5 a yes 6 b no 2;man n 3 a no 6 b yes 1;"
            + "man o 2;man p 0;man q 20;child q m;kin m n;kin n o;";

    public static void main(String[] args) {
        newObject();
        feedsBytes();
        feedsTooMuch();
        ends();
        readsAndEmpties();
        stays();
        newFerry();
        faults();
        men();
        noSuchMen();
        thoughts();
        lieAheadOfChild();
        byHimself();
        onOneBank();
        atFirst();
        nows();
        noSuchSets();
        nobodyOrElsewhere();
        moreThanTheSeats();
        theSlack();
        foes();
        leastReason();
        onTheOtherBank();
        raises();
        hires();
        lies();
        turns();
        wets();
        undoes();
        keepsEight();
        undoesAll();
        throwsAndStays();
        manyCalls();
        CHECK.finish();
    }

    private static void newObject() {
        CHECK.by("An empty FERRY; an empty tape");
        OpinionFerry x = new OpinionFerry();
        int[] counts = {0, 0, 4, 0, 0, 0};
        int[] nows = {0, -1, 0, 0, 0, 0, 0, 0};
        for (int what = 0; what < counts.length; what++) {
            CHECK.due("count " + what, counts[what], x.count(what));
        }
        for (int what = 0; what < nows.length; what++) {
            CHECK.due("now " + what, nows[what], x.now(what));
        }
        CHECK.due("no SENTENCE", -1, x.said(-1));
        CHECK.due("no FAULT", 0, x.fault());
        CHECK.due("nothing to undo", -1, x.undo());
        CHECK.due("no image", false, x.restore(0) || x.restore(1));
        CHECK.due("the tape is an empty FERRY", 0, x.ferry());
    }

    private static void feedsBytes() {
        CHECK.by("Twenty bytes come behind the tape, of each number the highest first: how many it has");
        OpinionFerry x = new OpinionFerry();
        CHECK.due("twenty", 20, x.feed(0x61736b20, 0x613b6173, 0x6b20623b, 0x61736b20, 0x633b2020));
        CHECK.due("forty", 40, x.feed(0x20202020, 0x20202020, 0x20202020, 0x20202020, 0x20202061));
        CHECK.due("how many", 40, x.count(5));
        CHECK.due("to 39", true, x.end(39));
        CHECK.due("three LINES", 3, x.ferry());
        // numbers below 0 are bytes like any others: here sets of ten MEN at most
        OpinionFerry y = Check.made("slack 9;ask a;man m 1;man n 1;");
        CHECK.due("bytes of 255", 20, y.feed(-1, -1, -1, -1, -1));
        CHECK.due("are no sets", -1, y.fits(0));
        y.feed(0x00030001, 0x00020000, -1, -1, -1);
        y.end(8);
        CHECK.due("four sets", 19, y.fits(0));
    }

    private static void feedsTooMuch() {
        CHECK.by("NONE, and none come, if it would have more than 940");
        OpinionFerry x = new OpinionFerry();
        for (int i = 1; i <= 47; i++) {
            CHECK.due("feed " + i, 20 * i, x.feed(0x20202020, 0x20202020, 0x20202020, 0x20202020, 0x20202020));
        }
        CHECK.due("forty-eight times", -1, x.feed(1, 2, 3, 4, 5));
        CHECK.due("none came", 940, x.count(5));
        CHECK.due("to 921", true, x.end(921));
        CHECK.due("941 would be too many", -1, x.feed(1, 2, 3, 4, 5));
        CHECK.due("none came", 921, x.count(5));
        CHECK.due("to 920", true, x.end(920));
        CHECK.due("940 are not", 940, x.feed(1, 2, 3, 4, 5));
        CHECK.due("to 900", true, x.end(900));
        CHECK.due("900 blanks are an empty FERRY", 0, x.ferry());
        CHECK.due("an empty tape has room again", 20, x.feed(0, 0, 0, 0, 0));
    }

    private static void ends() {
        CHECK.by("The tape has its first n bytes alone: true; false, if it has not so many, or n is below 0");
        OpinionFerry x = new OpinionFerry();
        CHECK.due("0 of 0", true, x.end(0));
        CHECK.due("1 of 0", false, x.end(1));
        x.feed(0x61736b20, 0x613b6173, 0x6b20623b, 0, 0);
        CHECK.due("-1", false, x.end(-1));
        CHECK.due("the least", false, x.end(LEAST));
        CHECK.due("21 of 20", false, x.end(21));
        CHECK.due("the greatest", false, x.end(GREATEST));
        CHECK.due("20 stay", 20, x.count(5));
        CHECK.due("20 of 20", true, x.end(20));
        CHECK.due("12 of 20", true, x.end(12));
        CHECK.due("13 of 12", false, x.end(13));
        CHECK.due("6 of 12", true, x.end(6));
        CHECK.due("the first ones alone", 1, x.ferry());
        x.feed(0, 0, 0, 0, 0);
        CHECK.due("0 of 20", true, x.end(0));
        CHECK.due("none", 0, x.count(5));
    }

    private static void readsAndEmpties() {
        CHECK.by("The tape (empty then, here and below) is the FERRY now: how many LINES");
        OpinionFerry x = new OpinionFerry();
        CHECK.due("LINES", 12, Check.ferry(x, FOLK));
        CHECK.due("empty behind ferry()", 0, x.count(5));
        CHECK.due("a FAULT", -1, Check.ferry(x, "?"));
        CHECK.due("empty behind its FAULT", 0, x.count(5));
        Check.log(x, "hire m;", 0);
        CHECK.due("empty behind log()", 0, x.count(5));
        Check.log(x, "?", 1);
        CHECK.due("empty behind its FAULT", 0, x.count(5));
        Check.sentence(x, "wet");
        CHECK.due("empty behind sentence()", 0, x.count(5));
        Check.sentence(x, "?");
        CHECK.due("empty behind its FAULT", 0, x.count(5));
        Check.fits(x, 0, 1);
        CHECK.due("empty behind fits()", 0, x.count(5));
        Check.fits(x, 9, 1);
        CHECK.due("empty behind no fits()", 0, x.count(5));
        CHECK.due("an empty tape is a FERRY, too", 0, x.ferry());
        CHECK.due("of nobody", 0, x.count(1));
    }

    private static void stays() {
        CHECK.by("-1 less the place of a FAULT: it stays");
        OpinionFerry x = Check.made(FOLK);
        x.cross(3);
        x.hire(0);
        Check.sentence(x, "hired");
        for (String text : new String[] {"?", "seats 0;", "man m 1;man m 1;", "ask z;seats 5;slack 5;man m 1;ask"}) {
            CHECK.due("a FAULT of " + text, true, Check.ferry(x, text) < 0);
            CHECK.due("ASKS", 2, x.count(0));
            CHECK.due("MEN", 5, x.count(1));
            CHECK.due("seats", 3, x.count(2));
            CHECK.due("slack", 1, x.count(3));
            CHECK.due("kin", 2, x.count(4));
            CHECK.due("over", 3, x.now(4));
            CHECK.due("hired", 1, x.now(7));
            CHECK.due("the SENTENCE", 0, x.said(0));
        }
        CHECK.due("what can be undone", 1, x.undo());
        CHECK.due("at 0", -1, Check.ferry(x, "?"));
        CHECK.due("at 6", -7, Check.ferry(x, "seats 0;"));
    }

    private static void newFerry() {
        CHECK.by("A new FERRY: nobody is wet, hired or lies, no SENTENCE");
        OpinionFerry x = Check.made(FOLK);
        x.cross(3);
        x.turn(0, 0, 1);
        x.cross(1);
        x.hire(1);
        x.hire(2);
        x.lie(2, 1, 5);
        x.lie(0, 0, 9);
        x.raise(1);
        Check.sentence(x, "hired");
        CHECK.due("wet", 3, x.now(5));
        CHECK.due("the same once more", 12, Check.ferry(x, FOLK));
        int[] nows = {0, 0, 0, 0, 0, 0, 0, 0};
        for (int what = 0; what < nows.length; what++) {
            CHECK.due("now " + what, nows[what], x.now(what));
        }
        for (int m = 0; m < 5; m++) {
            for (int what : new int[] {0, 2, 3, 5, 7}) {
                CHECK.due("man " + m + " " + what, 0, x.man(m, what));
            }
        }
        CHECK.due("he thinks as the text says", 6, x.thinks(0, 0));
        CHECK.due("and says so", 6, x.says(0, 0));
        CHECK.due("no SENTENCE", -1, x.said(-1));
        CHECK.due("nothing to undo", -1, x.undo());
        CHECK.due("a FERRY that tells less", 3, Check.ferry(x, "man m 1;man n 1;man o 1;"));
        int[] counts = {0, 3, 4, 0, 0, 0};
        for (int what = 0; what < counts.length; what++) {
            CHECK.due("count " + what, counts[what], x.count(what));
        }
        CHECK.due("raised", -1, x.now(1));
        for (int m = 0; m < 3; m++) {
            CHECK.due("no kin of " + m, 0, x.man(m, 6));
            CHECK.due("no child " + m, -1, x.man(m, 4));
        }
        CHECK.due("what was told once can be told again", 3, Check.ferry(x, "seats 3;slack 2;ask a;"));
        CHECK.due("and once more", 3, Check.ferry(x, "slack 3;seats 2;man a 1;"));
    }

    private static void faults() {
        CHECK.by("The kind of the FAULT of the latest ferry(), log() or sentence() (a log() of -1000 leaves it);"
                + " 0 without one and ahead of any");
        OpinionFerry x = new OpinionFerry();
        CHECK.due("ahead of any", 0, x.fault());
        Check.ferry(x, "seats 0;");
        CHECK.due("of ferry()", 2, x.fault());
        Check.feed(x, "?");
        x.log(2);
        CHECK.due("log() of -1000 leaves it", 2, x.fault());
        x.end(0);
        Check.log(x, "hire z;", 1);
        CHECK.due("of log()", 3, x.fault());
        x.log(-1);
        CHECK.due("log() of -1000 leaves it", 3, x.fault());
        Check.sentence(x, "?");
        CHECK.due("of sentence()", 1, x.fault());
        Check.fits(x, 0, 1);
        CHECK.due("fits() leaves it", 1, x.fault());
        Check.sentence(x, "wet");
        CHECK.due("without one", 0, x.fault());
        Check.sentence(x, "not ".repeat(9));
        CHECK.due("of sentence()", 4, x.fault());
        x.log(0);
        CHECK.due("log() without one", 0, x.fault());
        Check.ferry(x, "?");
        x.ferry();
        CHECK.due("ferry() without one", 0, x.fault());
    }

    private static void men() {
        CHECK.by("0 his bank (0 near, 1 far), 1 WAGE, 2 hired, 3 wet (1, 0), 4 whose child he is (NONE), 5 trips so far,"
                + " 6 kin, as bits, 7 ASKS on which he keeps a lie, as bits");
        OpinionFerry x = Check.made(FOLK);
        int[][] first = {{0, 5, 0, 0, -1, 0, 2, 0}, {0, 3, 0, 0, -1, 0, 5, 0}, {0, 2, 0, 0, -1, 0, 2, 0},
            {0, 0, 0, 0, -1, 0, 0, 0}, {0, 20, 0, 0, 0, 0, 0, 0}};
        all(x, first);
        x.lie(4, 0, 0);
        x.lie(4, 1, 1);
        CHECK.due("two lies", 3, x.man(4, 7));
        x.cross(16);
        x.hire(4);
        x.turn(4, 1, 9);
        x.lie(3, 1, 1);
        first[4] = new int[] {1, 20, 1, 1, 0, 1, 0, 0};
        first[3][7] = 2;
        all(x, first);
        OpinionFerry y = Check.made("man m 1;man n 1;child m n;child n m;");
        CHECK.due("each the other one's child", 1, y.man(0, 4));
        CHECK.due("each the other one's child", 0, y.man(1, 4));
    }

    private static void all(OpinionFerry x, int[][] want) {
        for (int m = 0; m < want.length; m++) {
            for (int what = 0; what < want[m].length; what++) {
                CHECK.due("man " + m + " " + what, want[m][what], x.man(m, what));
            }
        }
    }

    private static void noSuchMen() {
        CHECK.by("man, thinks, says: NoSuchElementException: no such ones");
        OpinionFerry x = Check.made(FOLK);
        for (int wrong : new int[] {-1, 5, 10, 32, LEAST, GREATEST}) {
            CHECK.dueThrow("man " + wrong, () -> x.man(wrong, 0));
            CHECK.dueThrow("thinks " + wrong, () -> x.thinks(wrong, 0));
            CHECK.dueThrow("says " + wrong, () -> x.says(wrong, 0));
        }
        for (int wrong : new int[] {-1, 8, LEAST, GREATEST}) {
            CHECK.dueThrow("man 0 " + wrong, () -> x.man(0, wrong));
            CHECK.dueThrow("man 5 " + wrong, () -> x.man(5, wrong));
        }
        for (int wrong : new int[] {-1, 2, 9, LEAST, GREATEST}) {
            CHECK.dueThrow("thinks 0 " + wrong, () -> x.thinks(0, wrong));
            CHECK.dueThrow("says 0 " + wrong, () -> x.says(0, wrong));
        }
        CHECK.due("the last of all", 0, x.thinks(4, 1));
        CHECK.due("the last of all", -2, x.says(4, 1));
        OpinionFerry y = Check.made("ask a;");
        CHECK.dueThrow("no MEN", () -> y.man(0, 0));
        CHECK.dueThrow("no MEN", () -> y.thinks(0, 0));
        OpinionFerry z = Check.made("man m 1;");
        CHECK.dueThrow("no ASKS", () -> z.thinks(0, 0));
        CHECK.dueThrow("no ASKS", () -> z.says(0, 0));
    }

    private static void thoughts() {
        CHECK.by("What a MAN thinks on an ASK (-9 to 9; children, too)");
        OpinionFerry x = Check.made("ask a;ask b;man m 1 a yes 9 b no 9;man n 1 a no 1;child n m;");
        CHECK.due("most", 9, x.thinks(0, 0));
        CHECK.due("least", -9, x.thinks(0, 1));
        CHECK.due("a child by itself", -1, x.thinks(1, 0));
        CHECK.due("a child by itself", 0, x.thinks(1, 1));
        x.turn(1, 1, 9);
        CHECK.due("a child turns", 9, x.thinks(1, 1));
        x.lie(0, 0, -9);
        CHECK.due("a lie is no thought", 9, x.thinks(0, 0));
    }

    private static void lieAheadOfChild() {
        CHECK.by("What a MAN SAYS on an ASK: the lie that he told on it, if he keeps one; else, if he is a child");
        OpinionFerry x = Check.made(FOLK);
        CHECK.due("a child", 6, x.says(4, 0));
        x.lie(4, 0, -9);
        CHECK.due("its lie", -9, x.says(4, 0));
        CHECK.due("not on another ASK", -2, x.says(4, 1));
        x.lie(4, 0, 0);
        CHECK.due("a lie of nothing", 0, x.says(4, 0));
        x.lie(0, 0, 2);
        CHECK.due("its lie, whatever the other one says", 0, x.says(4, 0));
    }

    private static void byHimself() {
        CHECK.by("what the other one says by himself (his lie, or what he thinks; not by being a child)");
        OpinionFerry x = Check.made("ask a;man m 1 a yes 1;man n 1 a yes 2;man o 1 a yes 3;child m n;child n o;child o m;");
        CHECK.due("m says what n thinks", 2, x.says(0, 0));
        CHECK.due("n says what o thinks", 3, x.says(1, 0));
        CHECK.due("o says what m thinks", 1, x.says(2, 0));
        x.lie(1, 0, 9);
        CHECK.due("m says what n lies", 9, x.says(0, 0));
        CHECK.due("o says what m thinks, not what m says", 1, x.says(2, 0));
        x.turn(1, 0, 5);
        CHECK.due("his lie, not what he thinks", 9, x.says(0, 0));
    }

    private static void onOneBank() {
        CHECK.by("while they are on one bank; else what he thinks");
        OpinionFerry x = Check.made("slack 9;ask a;man m 1 a yes 1;man n 1 a yes 2;child m n;");
        CHECK.due("near", 2, x.says(0, 0));
        x.cross(2);
        CHECK.due("on two banks", 1, x.says(0, 0));
        x.cross(2);
        CHECK.due("near again", 2, x.says(0, 0));
        x.cross(1);
        CHECK.due("on two banks", 1, x.says(0, 0));
        x.cross(1);
        x.cross(3);
        CHECK.due("far", 2, x.says(0, 0));
    }

    private static void atFirst() {
        CHECK.by("The first ASK is raised at first. All are on the near bank, the boat, too");
        OpinionFerry x = Check.made(FOLK);
        CHECK.due("raised", 0, x.now(1));
        CHECK.due("over", 0, x.now(4));
        CHECK.due("boat", 0, x.now(0));
        x.raise(1);
        x.cross(4);
        CHECK.due("another one", 2, Check.ferry(x, "ask a;man m 1;"));
        CHECK.due("raised", 0, x.now(1));
        CHECK.due("over", 0, x.now(4));
        CHECK.due("boat", 0, x.now(0));
    }

    private static void nows() {
        CHECK.by("1 the raised ASK (NONE: there is none), 6 pairs of kin who are not on one bank; NONE for another what");
        OpinionFerry x = Check.made(FOLK);
        CHECK.due("no ASK", -1, Check.made("man m 1;").now(1));
        for (int wrong : new int[] {-1, 8, 9, LEAST, GREATEST}) {
            CHECK.due("now " + wrong, -1, x.now(wrong));
        }
        CHECK.due("all on one bank", 0, x.now(6));
        x.cross(3);
        CHECK.due("n and o", 1, x.now(6));
        x.cross(3);
        x.cross(4);
        CHECK.due("n and o", 1, x.now(6));
        x.cross(4);
        x.cross(7);
        CHECK.due("all on the far one", 0, x.now(6));
        x.cross(4);
        x.turn(1, 0, 0);
        x.hire(2);
        x.cross(4);
        x.cross(2);
        CHECK.due("both pairs", 2, x.now(6));
        CHECK.due("trips", 8, x.now(3));
        CHECK.due("coin", 2, x.now(2));
    }

    private static void noSuchSets() {
        CHECK.by("why, cross: NONE: no such ones");
        OpinionFerry x = Check.made(FOLK);
        for (int wrong : new int[] {-1, 32, 33, 1024, LEAST, LEAST | 3, GREATEST}) {
            CHECK.due("why " + wrong, -1, x.why(wrong));
            CHECK.due("cross " + wrong, -1, x.cross(wrong));
        }
        CHECK.due("all of them", 2, x.why(31));
        CHECK.due("nothing was done", -1, x.undo());
        OpinionFerry y = new OpinionFerry();
        CHECK.due("nobody of nobody", 1, y.why(0));
        CHECK.due("nobody of nobody", 1, y.cross(0));
        CHECK.due("no such one", -1, y.why(1));
    }

    private static void nobodyOrElsewhere() {
        CHECK.by("1 nobody, or one is not on the boat's bank");
        OpinionFerry x = Check.made(FOLK);
        CHECK.due("nobody", 1, x.why(0));
        CHECK.due("nobody", 1, x.cross(0));
        CHECK.due("o goes", 0, x.cross(4));
        CHECK.due("p is not there", 1, x.why(8));
        CHECK.due("one of both is not there", 1, x.why(12));
        CHECK.due("o is there", 0, x.why(4));
        CHECK.due("nobody", 1, x.why(0));
        CHECK.due("p is not there", 1, x.cross(8));
        CHECK.due("o comes back", 0, x.cross(4));
        CHECK.due("both are there", 0, x.why(12));
    }

    private static void moreThanTheSeats() {
        CHECK.by("2 more than the seats");
        for (int seats = 1; seats <= 8; seats++) {
            StringBuilder text = new StringBuilder("seats " + seats + ";ask a;");
            for (char c = 'b'; c < 'l'; c++) {
                text.append("man ").append(c).append(" 1;");
            }
            OpinionFerry x = Check.made(text.toString());
            CHECK.due("just " + seats, 0, x.why((1 << seats) - 1));
            CHECK.due("just " + seats + " of the last ones", 0, x.why(1023 & -1 << 10 - seats));
            CHECK.due("one more than " + seats, 2, x.why((2 << seats) - 1));
            CHECK.due("all", 2, x.why(1023));
            x.hire(0);
            CHECK.due("a hired one takes a seat", 2, x.why((2 << seats) - 1));
            CHECK.due("they cross", 0, x.cross((1 << seats) - 1));
        }
    }

    private static void theSlack() {
        CHECK.by("3 without ASKS, or what those who are not hired say on the raised ASK comes to more than the slack,"
                + " above or below 0");
        CHECK.due("without ASKS", 3, Check.made("slack 9;man m 1;").why(1));
        OpinionFerry hired = Check.made("slack 9;man m 1;");
        hired.hire(0);
        CHECK.due("without ASKS, all hired", 3, hired.cross(1));
        for (int slack = 0; slack <= 9; slack++) {
            OpinionFerry x = Check.made("slack " + slack + ";ask b;ask a;man m 1;man n 1;");
            x.raise(1);
            for (int so = -9; so <= 9; so++) {
                x.turn(0, 1, so);
                int due = so > slack || so < -slack ? 3 : 0;
                CHECK.due(so + " by slack " + slack, due, x.why(1));
            }
        }
        OpinionFerry y = Check.made("slack 9;ask a;man m 1 a yes 9;man n 1 a yes 1;man o 1 a no 9;man p 1 a no 1;");
        CHECK.due("9 and 1", 3, y.why(3));
        CHECK.due("-9 and -1", 3, y.why(12));
        CHECK.due("9", 0, y.why(1));
        CHECK.due("-9", 0, y.why(4));
        CHECK.due("all", 0, y.why(15));
        y.hire(1);
        CHECK.due("a hired one says nothing", 0, y.why(3));
    }

    private static int foesBy(int one, int two, int three, int four) {
        OpinionFerry x = Check.made("slack 0;ask a;ask b;ask c;man m 1;man n 1;");
        x.turn(0, 1, one);
        x.turn(1, 1, two);
        x.turn(0, 2, three);
        x.turn(1, 2, four);
        return x.why(3);
    }

    private static void foes() {
        CHECK.by("4 two of them say unlike things on one ASK, and the same on another one, all four with FIRM 5 at least");
        CHECK.due("all with 5", 4, foesBy(5, -5, 5, 5));
        CHECK.due("no and no", 4, foesBy(-5, 5, -5, -5));
        CHECK.due("the same ahead", 4, foesBy(5, 5, 5, -5));
        CHECK.due("with 5 and more", 4, foesBy(9, -5, 6, 7));
        CHECK.due("the first with 4", 0, foesBy(4, -5, 5, 5));
        CHECK.due("the second with 4", 0, foesBy(5, -4, 5, 5));
        CHECK.due("the third with 4", 0, foesBy(5, -5, 4, 5));
        CHECK.due("the fourth with 4", 0, foesBy(5, -5, 5, 4));
        CHECK.due("the third with -4", 0, foesBy(5, -5, -4, -5));
        CHECK.due("unlike on both", 0, foesBy(5, -5, 5, -5));
        CHECK.due("the same on both", 0, foesBy(5, 5, -5, -5));
        CHECK.due("nothing on one", 0, foesBy(5, -5, 0, 0));
        // the raised ASK counts, and hired ones are foes, too
        OpinionFerry x = Check.made("slack 9;ask a;ask b;man m 1 a yes 5 b yes 5;man n 1 a no 5 b yes 5;man o 1;");
        CHECK.due("the raised ASK", 4, x.why(3));
        CHECK.due("with a third", 4, x.why(7));
        x.hire(0);
        x.hire(1);
        CHECK.due("hired ones", 4, x.why(3));
        CHECK.due("one of them alone", 0, x.why(5));
        CHECK.due("the other one alone", 0, x.why(6));
        x.lie(1, 1, 4);
        CHECK.due("as they say, not as they think", 0, x.why(3));
    }

    private static void leastReason() {
        CHECK.by("why not, the least");
        // m and n are foes and don't balance, three are more than the seats
        OpinionFerry x = Check.made("seats 2;ask a;ask b;man m 1 a yes 9 b yes 5;man n 1 a yes 9 b no 5;man o 1;man p 1;");
        CHECK.due("3 ahead of 4", 3, x.why(3));
        CHECK.due("2 ahead of 3 and 4", 2, x.why(7));
        CHECK.due("p crosses", 0, x.cross(8));
        CHECK.due("1 ahead of 2, 3 and 4", 1, x.why(7));
        CHECK.due("1 ahead of 3 and 4", 1, x.why(3));
        x.cross(8);
        x.hire(0);
        x.hire(1);
        CHECK.due("4 at last", 4, x.why(3));
        CHECK.due("2 ahead of 4", 2, x.why(7));
        OpinionFerry y = Check.made("seats 1;man m 1;man n 1;");
        CHECK.due("2 ahead of no ASKS", 2, y.why(3));
        CHECK.due("nobody ahead of no ASKS", 1, y.why(0));
        CHECK.due("no ASKS", 3, y.why(1));
    }

    private static void onTheOtherBank() {
        CHECK.by("Then they and the boat are on the other bank; who was hired among them is not any more;"
                + " who kept lies tells none any more, once he is on the far bank");
        OpinionFerry x = Check.made(FOLK);
        x.hire(2);
        x.hire(3);
        x.lie(2, 0, 9);
        x.lie(2, 1, 9);
        x.lie(3, 0, 9);
        CHECK.due("o crosses", 0, x.cross(4));
        CHECK.due("boat", 1, x.now(0));
        CHECK.due("over", 4, x.now(4));
        CHECK.due("hired is p alone", 8, x.now(7));
        CHECK.due("paid is paid", 2, x.now(2));
        CHECK.due("o keeps no lie", 0, x.man(2, 7));
        CHECK.due("and says what he thinks", 0, x.says(2, 0));
        CHECK.due("p keeps his", 1, x.man(3, 7));
        x.hire(2);
        CHECK.due("o comes back", 0, x.cross(4));
        CHECK.due("boat", 0, x.now(0));
        CHECK.due("over", 0, x.now(4));
        CHECK.due("o is not hired on the way back either", 8, x.now(7));
        CHECK.due("his trips", 2, x.man(2, 5));
        CHECK.due("all trips", 2, x.now(3));
        CHECK.due("the old lies are not told again", 0, x.says(2, 1));
        CHECK.due("he can lie anew", 0, x.lie(2, 1, 1));
    }

    private static void raises() {
        CHECK.by("To RAISE an ASK: 1 it is raised; NONE: no such one");
        OpinionFerry x = Check.made(FOLK);
        CHECK.due("it is", 1, x.raise(0));
        CHECK.due("not", 0, x.raise(1));
        CHECK.due("it is", 1, x.raise(1));
        for (int wrong : new int[] {-1, 2, 9, LEAST, GREATEST}) {
            CHECK.due("raise " + wrong, -1, x.raise(wrong));
        }
        CHECK.due("raised", 1, x.now(1));
        CHECK.due("one was done", 0, x.undo());
        CHECK.due("no ASKS", -1, Check.made("man m 1;").raise(0));
        CHECK.due("no ASKS", -1, Check.made("man m 1;").raise(-1));
    }

    private static void hires() {
        CHECK.by("To HIRE: 1 he is hired already: the coin (0 at first) is his WAGE more; NONE: no such one");
        OpinionFerry x = Check.made(FOLK);
        CHECK.due("at first", 0, x.now(2));
        CHECK.due("the dearest", 0, x.hire(4));
        CHECK.due("coin", 20, x.now(2));
        CHECK.due("already", 1, x.hire(4));
        CHECK.due("coin", 20, x.now(2));
        CHECK.due("for nothing", 0, x.hire(3));
        CHECK.due("already", 1, x.hire(3));
        CHECK.due("coin", 20, x.now(2));
        for (int wrong : new int[] {-1, 5, 10, LEAST, GREATEST}) {
            CHECK.due("hire " + wrong, -1, x.hire(wrong));
        }
        CHECK.due("hired", 24, x.now(7));
        CHECK.due("two were done", 1, x.undo());
        x.cross(8);
        CHECK.due("one who is not there", 0, x.hire(0));
        CHECK.due("one who is over", 0, x.hire(3));
        CHECK.due("coin", 25, x.now(2));
        CHECK.due("nobody", -1, new OpinionFerry().hire(0));
    }

    private static void lies() {
        CHECK.by("To LIE (on an ASK, so): 1 he is over; 2 he says so already; so -9 to 9; NONE: no such ones");
        OpinionFerry x = Check.made(FOLK);
        CHECK.due("9", 0, x.lie(2, 0, 9));
        CHECK.due("-9", 0, x.lie(2, 0, -9));
        for (int wrong : new int[] {-10, 10, LEAST, GREATEST}) {
            CHECK.due("so " + wrong, -1, x.lie(2, 0, wrong));
        }
        for (int wrong : new int[] {-1, 5, LEAST, GREATEST}) {
            CHECK.due("man " + wrong, -1, x.lie(wrong, 0, 1));
        }
        for (int wrong : new int[] {-1, 2, LEAST, GREATEST}) {
            CHECK.due("ASK " + wrong, -1, x.lie(2, wrong, 1));
        }
        CHECK.due("he says so by his lie", 2, x.lie(2, 0, -9));
        CHECK.due("he says so by his thought", 2, x.lie(0, 0, 6));
        CHECK.due("he says nothing already", 2, x.lie(3, 0, 0));
        CHECK.due("a child says so", 2, x.lie(4, 0, 6));
        CHECK.due("a child's own thought is a lie", 0, x.lie(4, 0, 0));
        CHECK.due("nothing else is kept", 1, x.man(4, 7));
        CHECK.due("p crosses", 0, x.cross(8));
        CHECK.due("he is over", 1, x.lie(3, 0, 1));
        CHECK.due("he is over, and says so", 1, x.lie(3, 0, 0));
        CHECK.due("he is over, and there is no such ASK", -1, x.lie(3, 2, 0));
        x.cross(8);
        CHECK.due("he came back", 0, x.lie(3, 0, 1));
    }

    private static void turns() {
        CHECK.by("To TURN (to think so): 1 he thinks so already; NONE: no such ones");
        OpinionFerry x = Check.made(FOLK);
        CHECK.due("he thinks so", 1, x.turn(0, 0, 6));
        CHECK.due("he thinks nothing", 1, x.turn(2, 1, 0));
        CHECK.due("9", 0, x.turn(0, 0, 9));
        CHECK.due("-9", 0, x.turn(0, 0, -9));
        CHECK.due("he thinks so", 1, x.turn(0, 0, -9));
        for (int wrong : new int[] {-10, 10, LEAST, GREATEST}) {
            CHECK.due("so " + wrong, -1, x.turn(0, 0, wrong));
        }
        for (int wrong : new int[] {-1, 5, LEAST, GREATEST}) {
            CHECK.due("man " + wrong, -1, x.turn(wrong, 0, 1));
        }
        for (int wrong : new int[] {-1, 2, LEAST, GREATEST}) {
            CHECK.due("ASK " + wrong, -1, x.turn(0, wrong, 1));
        }
        CHECK.due("thinks", -9, x.thinks(0, 0));
        CHECK.due("two were done", 1, x.undo());
        x.lie(1, 0, 3);
        CHECK.due("he says so, but does not think so", 0, x.turn(1, 0, 3));
        CHECK.due("he thinks so, whatever he says", 1, x.turn(1, 0, 3));
        CHECK.due("a child thinks by itself", 0, x.turn(4, 0, 9));
        CHECK.due("on the last ASK", 0, x.turn(4, 1, -9));
    }

    private static void wets() {
        CHECK.by("then all who are on one bank with him, and himself, are WET, if he has made a trip ahead");
        OpinionFerry x = Check.made(FOLK);
        x.turn(2, 1, 1);
        CHECK.due("no trip ahead", 0, x.now(5));
        x.cross(12);
        x.turn(0, 1, 1);
        CHECK.due("others' trips are not his", 0, x.now(5));
        x.turn(2, 1, 1);
        CHECK.due("he thinks so already: nobody", 0, x.now(5));
        x.turn(2, 1, 2);
        CHECK.due("both on the far bank", 12, x.now(5));
        x.cross(8);
        x.turn(2, 1, 3);
        CHECK.due("who is wet stays so", 12, x.now(5));
        x.turn(3, 1, 3);
        CHECK.due("all on the near bank, too", 31, x.now(5));
        OpinionFerry y = Check.made(FOLK);
        y.cross(4);
        y.turn(2, 0, 1);
        CHECK.due("himself alone", 4, y.now(5));
        CHECK.due("he is", 1, y.man(2, 3));
        CHECK.due("another one is not", 0, y.man(1, 3));
    }

    private static void undoes() {
        CHECK.by("The latest of cross(), raise(), hire(), lie(), turn() that was done, drawn() that was not NONE,"
                + " a LOG that was lived is undone: how many more can be; NONE: none is");
        OpinionFerry x = Check.made(FOLK);
        CHECK.due("none", -1, x.undo());
        x.cross(1);
        x.cross(0);
        x.cross(32);
        x.raise(0);
        x.raise(2);
        x.hire(5);
        x.lie(0, 0, 6);
        x.lie(0, 0, 10);
        x.turn(0, 0, 6);
        x.turn(0, 2, 1);
        x.drawn(0, 1);
        x.drawn(41, 1);
        x.why(3);
        x.odds(0, 5, 1);
        Check.log(x, "raise b;", 0);
        Check.log(x, "raise b;?", 1);
        Check.log(x, "raise b;", 2);
        x.end(0);
        CHECK.due("what was not done can't be undone", -1, x.undo());
        x.cross(4);
        x.raise(1);
        x.hire(0);
        x.lie(0, 1, 1);
        x.turn(0, 0, 1);
        x.drawn(1, 1);
        Check.log(x, "raise a;", 1);
        CHECK.due("the LOG", 6, x.undo());
        CHECK.due("the ASK again", 1, x.now(1));
        CHECK.due("drawn", 5, x.undo());
        CHECK.due("turn", 4, x.undo());
        CHECK.due("he thinks", 6, x.thinks(0, 0));
        CHECK.due("lie", 3, x.undo());
        CHECK.due("he says", -2, x.says(0, 1));
        CHECK.due("hire", 2, x.undo());
        CHECK.due("coin", 0, x.now(2));
        CHECK.due("raise", 1, x.undo());
        CHECK.due("raised", 0, x.now(1));
        CHECK.due("cross", 0, x.undo());
        CHECK.due("over", 0, x.now(4));
        CHECK.due("none", -1, x.undo());
        // draws without a crossing, and a LOG without a LINE that could be lived, are acts
        OpinionFerry y = Check.made("man m 1;");
        CHECK.due("no crossing", 0, y.drawn(1, 1));
        CHECK.due("is undone", 0, y.undo());
        CHECK.due("nobody is hired", 0, y.now(7));
        CHECK.due("an empty LOG", -1, y.log(1));
        CHECK.due("is undone", 0, y.undo());
    }

    private static void keepsEight() {
        CHECK.by("8 at most are kept");
        OpinionFerry x = Check.made(FOLK);
        for (int i = 1; i <= 9; i++) {
            x.turn(0, 0, -i);
        }
        for (int left = 7; left >= 0; left--) {
            CHECK.due("undo", left, x.undo());
            CHECK.due("he thinks", -1 - left, x.thinks(0, 0));
        }
        CHECK.due("the ninth is not kept", -1, x.undo());
        CHECK.due("he thinks by it", -1, x.thinks(0, 0));
        // the places of eight go round, with some undone in between
        int done = 0;
        for (int i = 0; i < 30; i++) {
            x.raise(1 - x.now(1));
            done = Math.min(8, done + 1);
            if (i % 3 == 2) {
                done--;
                int ahead = x.now(1);
                CHECK.due("undo " + i, done, x.undo());
                CHECK.due("raised " + i, 1 - ahead, x.now(1));
            }
        }
        for (int left = done - 1; left >= 0; left--) {
            CHECK.due("undo", left, x.undo());
        }
        CHECK.due("none", -1, x.undo());
    }

    private static void undoesAll() {
        CHECK.by("undo: all that the act changed is as it was ahead of it");
        OpinionFerry x = Check.made(FOLK);
        x.hire(4);
        x.lie(4, 0, 0);
        x.lie(4, 1, 7);
        x.cross(16);
        x.turn(4, 1, 1);
        CHECK.due("the turn", 4, x.undo());
        CHECK.due("wet", 0, x.now(5));
        CHECK.due("thinks", 0, x.thinks(4, 1));
        CHECK.due("the crossing", 3, x.undo());
        CHECK.due("hired again", 16, x.now(7));
        CHECK.due("both lies", 3, x.man(4, 7));
        CHECK.due("says", 7, x.says(4, 1));
        CHECK.due("trips", 0, x.man(4, 5) + x.now(3));
        CHECK.due("boat", 0, x.now(0));
        x.lie(4, 1, 8);
        CHECK.due("a lie over a lie", 3, x.undo());
        CHECK.due("the one ahead is told again", 7, x.says(4, 1));
        CHECK.due("the lie", 2, x.undo());
        CHECK.due("one lie", 1, x.man(4, 7));
    }

    private static void throwsAndStays() {
        CHECK.by("A call that throws changes nothing");
        OpinionFerry x = Check.made(FOLK);
        Check.sentence(x, "wet");
        x.hire(0);
        x.feed(0, 0, 0, 0, 0);
        CHECK.dueThrow("man", () -> x.man(7, 0));
        CHECK.dueThrow("thinks", () -> x.thinks(0, 7));
        CHECK.dueThrow("says", () -> x.says(-7, 0));
        CHECK.dueThrow("sum", () -> x.sum(-7));
        CHECK.dueThrow("jokes", () -> x.jokes(1, 7));
        CHECK.due("the tape", 20, x.count(5));
        CHECK.due("hired", 1, x.now(7));
        CHECK.due("the SENTENCE", 0, x.said(-1));
        CHECK.due("the FAULT", 0, x.fault());
        CHECK.due("what can be undone", 0, x.undo());
    }

    private static void manyCalls() {
        CHECK.by("An object is used for at most 512 calls after it has been made");
        OpinionFerry x = Check.made(FOLK);
        for (int i = 1; i <= 240; i++) {
            CHECK.due("hired " + i, 0, x.hire(4));
            CHECK.due("crosses " + i, 0, x.cross(16));
        }
        CHECK.due("trips", 240, x.now(3));
        CHECK.due("his", 240, x.man(4, 5));
        CHECK.due("coin", 4800, x.now(2));
        CHECK.due("eight are kept", 7, x.undo());
        CHECK.due("a trip less", 239, x.now(3));
    }
}
