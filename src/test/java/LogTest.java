/** Promises 35 (log) and 36 (logged). */
public final class LogTest {
    private static final Check CHECK = new Check();
    private static final String FOLK = "seats 2;ask a;ask b;man m 1 a yes 3 b yes 1;man n 4 a no 3 b no 1;"
            + "man o 1 b yes 2;man p 1;";

    public static void main(String[] args) {
        sound();
        wrongLines();
        faults();
        tooMuch();
        CHECK.finish();
    }

    private static void logged(OpinionFerry x, int why, int lines, int trips, int over) {
        int[] want = {why, lines, trips, over};
        for (int what = 0; what < 4; what++) {
            CHECK.due("logged " + what, want[what], x.logged(what));
        }
    }

    private static void sound() {
        OpinionFerry x = Check.made(FOLK);
        CHECK.due("ahead of any", -1, x.logged(0));
        CHECK.due("empty", -1, x.log(0));
        logged(x, 0, 0, 0, 0);
        String text = "cross m n;n turns a no 4;cross n m;hire n;raise b;p lies b no 0;p lies b no 9;";
        CHECK.due("WRONG at its third LINE", 2, Check.log(x, text, 0));
        CHECK.due("no FAULT", 0, x.fault());
        logged(x, 3, 2, 1, 3);
        CHECK.due("all stays", 0, x.now(4) + x.now(5));
        CHECK.due("all stays", -3, x.thinks(1, 0));
        CHECK.due("nothing to undo", -1, x.undo());
        CHECK.due("lived", 2, Check.log(x, text, 1));
        logged(x, 3, 2, 1, 3);
        CHECK.due("over", 3, x.now(4));
        CHECK.due("wet", 3, x.now(5));
        CHECK.due("trips", 1, x.now(3));
        CHECK.due("thinks", -4, x.thinks(1, 0));
        CHECK.due("hired", 0, x.now(7));
        CHECK.due("another what", -1, x.logged(4));
        CHECK.due("another what", -1, x.logged(-1));
        CHECK.due("undone at once", 0, x.undo());
        CHECK.due("over", 0, x.now(4));
        CHECK.due("thinks", -3, x.thinks(1, 0));
        logged(x, 3, 2, 1, 3);
        CHECK.due("not WRONG", -1, Check.log(x, "hire n;raise b;p lies b no 1;cross m p;", 1));
        logged(x, 0, 4, 1, 9);
        CHECK.due("coin", 4, x.now(2));
        CHECK.due("raised", 1, x.now(1));
        CHECK.due("another lives", -1000, x.log(2));
        x.feed(0, 0, 0, 0, 0);
        CHECK.due("another lives", -1000, x.log(-1));
        CHECK.due("the tape stays", 20, x.count(5));
        logged(x, 0, 4, 1, 9);
    }

    private static void wrong(String text, int line, int why) {
        OpinionFerry x = Check.made(FOLK);
        CHECK.due("WRONG in " + text, line, Check.log(x, text, 1));
        CHECK.due("why in " + text, why, x.logged(0));
        CHECK.due("ahead in " + text, line, x.logged(1));
    }

    private static void wrongLines() {
        wrong("cross o;cross p;", 1, 1);
        wrong("cross m n o;", 0, 2);
        wrong("cross m;", 0, 3);
        wrong("raise b;raise b;", 1, 11);
        wrong("raise a;", 0, 11);
        wrong("hire m;hire m;", 1, 21);
        wrong("cross o;o lies a yes 1;", 1, 31);
        wrong("m lies a yes 3;", 0, 32);
        wrong("p lies a no 0;", 0, 32);
        wrong("m lies a no 2;m lies a no 2;", 1, 32);
        wrong("m turns a yes 3;", 0, 41);
        wrong("p turns b yes 0;", 0, 41);
        wrong("m turns a yes 5;m turns b yes 5;n turns a yes 5;n turns b no 5;hire m;hire n;cross n m;", 6, 4);
        OpinionFerry x = Check.made(FOLK);
        CHECK.due("WRONG at once", 0, Check.log(x, "raise a;", 1));
        CHECK.due("it was lived as far as it goes", 0, x.undo());
    }

    private static void bad(String text, int place, int kind) {
        OpinionFerry x = Check.made(FOLK);
        x.log(0);
        CHECK.due("place in " + text, -2 - place, Check.log(x, text, 1));
        CHECK.due("fault of " + text, kind, x.fault());
        CHECK.due("the tape behind " + text, 0, x.count(5));
        logged(x, 0, 0, 0, 0);
        CHECK.due("nothing is lived of " + text, -1, x.undo());
        CHECK.due("another lives leaves it", -1000, x.log(7));
        CHECK.due("the kind stays", kind, x.fault());
    }

    private static void faults() {
        bad("hire m", 6, 1);
        bad("hire m;;", 7, 1);
        bad("hire;", 4, 1);
        bad("hire 1;", 5, 1);
        bad("hire a;", 5, 3);
        bad("hire z;", 5, 3);
        bad("hire yes;", 5, 1);
        bad("raise m;", 6, 3);
        bad("raise z;", 6, 3);
        bad("raise a b;", 8, 1);
        bad("cross;", 5, 1);
        bad("cross m m;", 8, 3);
        bad("cross m a;", 8, 3);
        bad("cross m n o p m;", 14, 3);
        bad("cross m 1;", 8, 1);
        bad("cross m raise a;", 8, 1);
        bad("m;", 1, 1);
        bad("z lies a yes 1;", 0, 3);
        bad("a lies a yes 1;", 0, 3);
        bad("lies a yes 1;", 0, 1);
        bad("seats 1;", 0, 1);
        bad("1;", 0, 1);
        bad("m hire n;", 2, 1);
        bad("m lies m yes 1;", 7, 3);
        bad("m lies a 1;", 9, 1);
        bad("m lies a yes;", 12, 1);
        bad("m lies a yes 10;", 13, 2);
        bad("m turns a no 99;", 13, 2);
        bad("m turns a no 100;", 13, 1);
        bad("hire m;hire z;", 12, 3);
        bad("hire M;", 5, 1);
    }

    private static void tooMuch() {
        String forty = "hire m;".repeat(40);
        OpinionFerry x = Check.made(FOLK);
        CHECK.due("forty", 1, Check.log(x, forty, 0));
        bad(forty + "hire m;", 280, 4);
        bad(forty + "m lies", 280, 4);
        bad(forty + "z", 280, 3);
        bad(forty + "a", 280, 3);
        bad(forty + "yes", 280, 1);
        bad(forty + ";", 280, 1);
        OpinionFerry y = Check.made(FOLK);
        CHECK.due("four hundred bytes", -1, Check.log(y, "hire m;" + " ".repeat(393), 0));
        bad("hire m;" + " ".repeat(394), 400, 1);
        bad("hire m;" + " ".repeat(392) + "hirex m;", 399, 3);
        bad("hire m;" + " ".repeat(392) + "hire z;", 400, 1);
    }
}
