/** Promises 37 (sentence) and 38 (said). */
public final class SentenceTest {
    private static final Check CHECK = new Check();
    private static final String FOLK = "seats 3;ask a;ask b;man m 1 a yes 3 b no 5;man n 4 a no 3;man o 20 b yes 9;man p 4;"
            + "child p m;";

    public static void main(String[] args) {
        meanings();
        ones();
        faults();
        tooMuch();
        stays();
        CHECK.finish();
    }

    /** m and n over and wet (n turned there), o hired, a raised. */
    private static OpinionFerry scene() {
        OpinionFerry x = Check.made(FOLK);
        x.cross(3);
        x.turn(1, 0, -4);
        x.hire(2);
        return x;
    }

    private static void means(String text, int ones, int men) {
        OpinionFerry x = scene();
        CHECK.due("ONES of " + text, ones, Check.sentence(x, text));
        CHECK.due("how many: " + text, Integer.bitCount(men), x.said(-1));
        int k = 0;
        for (int m = 0; m < 4; m++) {
            if ((men >> m & 1) == 1) {
                CHECK.due(k + " of " + text, m, x.said(k));
                k++;
            }
        }
        CHECK.due("none such of " + text, -1, x.said(k));
        CHECK.due("none such of " + text, -1, x.said(-2));
    }

    private static void meanings() {
        means("over", 1, 3);
        means("wet", 1, 3);
        means("hired", 1, 4);
        means("with m", 1, 3);
        means("with p", 1, 12);
        means("yes a", 1, 1);
        means("no a", 1, 2);
        means("yes b", 1, 4);
        means("no b", 1, 1);
        means("firm > 3", 1, 2);
        means("firm = 3", 1, 1);
        means("firm < 1", 1, 12);
        means("wage = 4", 1, 10);
        means("wage > 19", 1, 4);
        means("trips = 1", 1, 3);
        means("trips < 1", 1, 12);
        means("number > 1", 1, 12);
        means("number<99", 1, 15);
        means("number = 00", 1, 1);
        means("not over", 2, 12);
        means("not not over", 3, 3);
        means("(over)", 2, 3);
        means("over and yes a", 2, 1);
        means("hired or yes a", 2, 5);
        means("hired or over and yes a", 3, 5);
        means("over and yes a or hired", 3, 5);
        means("not over and hired", 3, 4);
        means("not (over and hired)", 4, 15);
        means("(hired or over) and no a", 4, 2);
        means("hired or over or number = 3", 3, 15);
        means("over and wet and no a", 3, 2);
        OpinionFerry x = Check.made("man m 1;");
        CHECK.due("firm without ASKS", 1, Check.sentence(x, "firm = 0"));
        CHECK.due("is 0", 1, x.said(-1));
        OpinionFerry y = Check.made(FOLK);
        Check.sentence(y, "no b");
        CHECK.due("a child says it, too", 2, y.said(-1));
        y.lie(0, 1, 1);
        CHECK.due("as they say now", 0, y.said(-1));
        y.undo();
        CHECK.due("and again", 2, y.said(-1));
        y.raise(1);
        Check.sentence(y, "firm = 5");
        CHECK.due("firm on the raised ASK", 3, y.said(1));
    }

    private static void ones() {
        means("not ".repeat(7) + "over", 8, 12);
        means("(".repeat(7) + "over" + ")".repeat(7), 8, 3);
        String nineteen = "over or ".repeat(19);
        means(nineteen + "wet", 20, 3);
    }

    private static void bad(String text, int place, int kind) {
        OpinionFerry x = scene();
        Check.sentence(x, "hired");
        CHECK.due("place in " + text, -1 - place, Check.sentence(x, text));
        CHECK.due("fault of " + text, kind, x.fault());
        CHECK.due("the tape behind " + text, 0, x.count(5));
        CHECK.due("the SENTENCE stays behind " + text, 2, x.said(0));
    }

    private static void faults() {
        bad("", 0, 1);
        bad("  ", 2, 1);
        bad("m", 0, 1);
        bad("a", 0, 1);
        bad("seats", 0, 1);
        bad("1", 0, 1);
        bad("and over", 0, 1);
        bad("over;", 4, 1);
        bad("over wet", 5, 1);
        bad("over and", 8, 1);
        bad("over or or", 8, 1);
        bad("not", 3, 1);
        bad("not and", 4, 1);
        bad("()", 1, 1);
        bad("(over", 5, 1);
        bad("(over))", 6, 1);
        bad("over)", 4, 1);
        bad("with", 4, 1);
        bad("with a", 5, 3);
        bad("with z", 5, 3);
        bad("with wet", 5, 1);
        bad("yes m", 4, 3);
        bad("no z", 3, 3);
        bad("yes 1", 4, 1);
        bad("firm 1", 5, 1);
        bad("firm >", 6, 1);
        bad("firm > m", 7, 1);
        bad("firm > 100", 7, 1);
        bad("firm ( 1", 5, 1);
        bad("firm >> 1", 6, 1);
        bad("Over", 0, 1);
    }

    private static void tooMuch() {
        String twenty = "over or ".repeat(20);
        bad(twenty + "wet", 160, 4);
        bad(twenty + "m", 160, 1);
        bad(twenty, 160, 1);
        bad("not ".repeat(8) + "over", 32, 4);
        bad("not ".repeat(9) + "over", 32, 4);
        bad("(".repeat(8) + "over", 8, 4);
        bad("(".repeat(9), 8, 4);
        bad("not ".repeat(8) + "z", 32, 1);
        OpinionFerry x = scene();
        CHECK.due("two hundred bytes", 1, Check.sentence(x, "over" + " ".repeat(196)));
        bad("over" + " ".repeat(197), 200, 1);
        bad("over" + " ".repeat(195) + "or wet", 200, 1);
        bad("over" + " ".repeat(195) + "ore wet", 199, 1);
        bad("with" + " ".repeat(195) + "zz", 199, 3);
    }

    private static void stays() {
        OpinionFerry x = scene();
        CHECK.due("there is none", -1, x.said(-1));
        CHECK.due("there is none", -1, x.said(0));
        Check.sentence(x, "over");
        CHECK.due("said", 2, x.said(-1));
        x.hire(0);
        CHECK.due("m comes back", 0, x.cross(1));
        CHECK.due("it is said of n alone", 1, x.said(0));
        CHECK.due("a FAULT of another text", -1, Check.ferry(x, "?"));
        CHECK.due("it stays", 1, x.said(-1));
        Check.ferry(x, FOLK);
        CHECK.due("a new FERRY has none", -1, x.said(-1));
    }
}
