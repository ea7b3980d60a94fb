/** Promises 4 (ferry) and 5 (fault): TOKENS, LINES and the FAULTS of a FERRY. */
public final class FerryTextTest {
    private static final Check CHECK = new Check();
    private static final String TWO = "man m 1;man n 1;";

    public static void main(String[] args) {
        sound();
        tokens();
        lines();
        names();
        tooMany();
        tooLong();
        staysOrGoes();
        CHECK.finish();
    }

    private static void good(String text, int lines) {
        OpinionFerry x = new OpinionFerry();
        CHECK.due("lines of " + text, lines, Check.ferry(x, text));
        CHECK.due("fault of " + text, 0, x.fault());
        CHECK.due("the tape behind " + text, 0, x.count(5));
    }

    private static void bad(String text, int place, int kind) {
        OpinionFerry x = new OpinionFerry();
        CHECK.due("place in " + text, -1 - place, Check.ferry(x, text));
        CHECK.due("fault of " + text, kind, x.fault());
        CHECK.due("the tape behind " + text, 0, x.count(5));
    }

    private static void sound() {
        good("", 0);
        good(" \n ", 0);
        good("ask a;", 1);
        good("\nask\n a ;\n", 1);
        good("seats 1;slack 0;", 2);
        good("seats 08;slack 09;", 2);
        good("ask a;man m 20 a yes 9;man n 0 a no 1;child m n;child n m;kin m n;", 6);
        good("ask asks;man abcdefg 5;", 2);
    }

    private static void tokens() {
        bad("Ask a;", 0, 1);
        bad("ask A;", 4, 1);
        bad("ask aB;", 5, 1);
        bad("ask a1;", 4, 1);
        bad("ask 1a;", 4, 1);
        bad("ask abcdefgh;", 4, 1);
        bad("seats 100;", 6, 1);
        bad("seats 1\t;", 7, 1);
        bad("seats 1.;", 7, 1);
        bad("seats 1\r;", 7, 1);
        bad("seats1;", 0, 1);
        bad("ask a;\u0000", 6, 1);
    }

    private static void lines() {
        bad(";", 0, 1);
        bad("ask a;;", 6, 1);
        bad("ask a", 5, 1);
        bad("ask a  ", 7, 1);
        bad("ask", 3, 1);
        bad("ask;", 3, 1);
        bad("ask 1;", 4, 1);
        bad("seats a;", 6, 1);
        bad("seats;", 5, 1);
        bad("seats 0;", 6, 2);
        bad("seats 9;", 6, 2);
        bad("slack 10;", 6, 2);
        bad("yes a;", 0, 1);
        bad("cross m;", 0, 1);
        bad("12;", 0, 1);
        bad("man m;", 5, 1);
        bad("man m 21;", 6, 2);
        bad("man m 1 yes 1;", 8, 1);
        bad("ask a;man m 1 a 1;", 16, 1);
        bad("ask a;man m 1 a yes;", 19, 1);
        bad("ask a;man m 1 a yes 0;", 20, 2);
        bad("ask a;man m 1 a no 10;", 19, 2);
        bad("ask a;man m 1 2;", 14, 1);
        bad(TWO + "child m;", 23, 1);
        bad(TWO + "child m n n;", 26, 1);
        bad(TWO + "kin 1 n;", 20, 1);
    }

    private static void names() {
        for (String word : ("seats slack ask man yes no child kin cross raise hire lies turns or and not over wet"
                + " hired with firm wage trips number").split(" ")) {
            bad("ask " + word + ";", 4, 1);
            bad("man " + word + " 1;", 4, 1);
            bad(TWO + "kin m " + word + ";", 22, 1);
        }
        bad("ask a;ask a;", 10, 3);
        bad("ask a;man a 1;", 10, 3);
        bad("man a 1;ask a;", 12, 3);
        bad("seats 1;slack 1;seats 2;", 16, 3);
        bad("slack 1;slack 1;", 8, 3);
        bad("man m 1 a yes 1;ask a;", 8, 3);
        bad("man m 1 m yes 1;", 8, 3);
        bad("ask a;man m 1 a yes 1 a yes 1;", 22, 3);
        bad("child m n;" + TWO, 6, 3);
        bad("ask a;" + TWO + "child m a;", 30, 3);
        bad("ask a;" + TWO + "kin a n;", 26, 3);
        bad(TWO + "child m m;", 24, 3);
        bad(TWO + "child m n;child m m;", 32, 3);
        bad(TWO + "kin m n;kin m n;", 30, 3);
        bad(TWO + "kin m n;kin n m;", 30, 3);
        bad(TWO + "kin n n;", 22, 3);
        bad(TWO + "kin m z;", 22, 3);
        bad(TWO + "kin z m;", 20, 3);
        bad(TWO + "child m z;", 24, 3);
        bad(TWO + "child z m;", 22, 3);
    }

    private static void tooMany() {
        StringBuilder asks = new StringBuilder();
        StringBuilder men = new StringBuilder();
        for (char c = 'a'; c < 'j'; c++) {
            asks.append("ask ").append(c).append(';');
            men.append("man m").append(c).append(" 1;");
        }
        men.append("man mj 1;");
        good(asks.toString() + men, 19);
        bad(asks + "ask j;", 54, 4);
        bad(asks + " ask 1;", 55, 4);
        bad(men + "man mk 1;", 90, 4);
        StringBuilder opinions = new StringBuilder(asks + "man m 3");
        for (char c = 'a'; c < 'j'; c++) {
            opinions.append(' ').append(c).append(" yes 9");
        }
        good(opinions + ";", 10);
        bad(opinions + " a yes 1;", opinions.length() + 1, 3);
    }

    private static void tooLong() {
        String blanks = " ".repeat(894);
        good("ask a;" + blanks, 1);
        bad("ask a;" + blanks + " ", 900, 1);
        bad("ask a;" + " ".repeat(888) + "ask b;;", 900, 1);
        bad("ask a;" + " ".repeat(887) + "ask b;;", 899, 1);
        // a TOKEN that begins ahead of the end is read whole
        bad(" ".repeat(899) + "asks", 899, 1);
        bad(" ".repeat(899) + "ask b;", 900, 1);
        bad("ask abc;" + " ".repeat(887) + "ask abc;", 899, 3);
        bad("ask abc;" + " ".repeat(887) + "ask abd;", 900, 1);
        bad("ask" + " ".repeat(896) + "abcdefgh;", 899, 1);
        bad("x".repeat(940), 0, 1);
        bad("ask a;" + " ".repeat(930), 900, 1);
    }

    private static void staysOrGoes() {
        OpinionFerry x = Check.made("ask a;man m 3 a yes 1;man n 4 a no 1;");
        CHECK.due("cross", 0, x.cross(3));
        CHECK.due("hire", 0, x.hire(0));
        CHECK.due("turn", 0, x.turn(1, 0, 5));
        CHECK.due("a SENTENCE", 1, Check.sentence(x, "over"));
        CHECK.due("a FAULT", -5, Check.ferry(x, "ask 1;"));
        CHECK.due("its kind", 1, x.fault());
        CHECK.due("men stay", 2, x.count(1));
        CHECK.due("over stay", 3, x.now(4));
        CHECK.due("the SENTENCE stays", 2, x.said(-1));
        CHECK.due("acts stay to be undone", 2, x.undo());
        CHECK.due("a new one", 2, Check.ferry(x, "ask b;man o 1;"));
        CHECK.due("its kind", 0, x.fault());
        CHECK.due("boat", 0, x.now(0));
        CHECK.due("raised", 0, x.now(1));
        CHECK.due("coin", 0, x.now(2));
        CHECK.due("trips", 0, x.now(3));
        CHECK.due("over", 0, x.now(4));
        CHECK.due("wet", 0, x.now(5));
        CHECK.due("hired", 0, x.now(7));
        CHECK.due("his trips", 0, x.man(0, 5));
        CHECK.due("his thought", 0, x.thinks(0, 0));
        CHECK.due("no SENTENCE", -1, x.said(-1));
        CHECK.due("nothing to undo", -1, x.undo());
        x.lie(0, 0, 3);
        x.cross(1);
        CHECK.due("all that was told once is told anew", 7,
                Check.ferry(x, "seats 2;slack 3;man m 1;man n 1;kin m n;child m n;ask a;"));
        CHECK.due("and once more", 4, Check.ferry(x, "seats 1;man m 1;man n 1;ask a;"));
        CHECK.due("the slack without", 0, x.count(3));
        CHECK.due("no kin", 0, x.count(4) + x.man(0, 6));
        CHECK.due("no child", -1, x.man(0, 4));
        CHECK.due("no lies", 0, x.man(0, 7));
        CHECK.due("an empty one", 0, x.ferry());
        CHECK.due("no raised ASK", -1, x.now(1));
        CHECK.due("the seats without", 4, x.count(2));
    }
}
