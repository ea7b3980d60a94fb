/** Promises 6 to 9 (what is so) and 10 to 16 (acts). */
public final class ActsTest {
    private static final Check CHECK = new Check();
    private static final String FOLK = "seats 2;slack 1;ask tax;ask war;man ann 5 tax yes 6 war no 5;"
            + "man bob 3 tax no 6 war yes 2;man cid 2 tax yes 6 war yes 7;man eve 0;man fay 20 tax yes 1;"
            + "child eve bob;child fay eve;kin ann bob;kin cid ann;";

    public static void main(String[] args) {
        men();
        voices();
        nows();
        whys();
        crossings();
        raisings();
        hirings();
        lies();
        turns();
        undos();
        noAsks();
        CHECK.finish();
    }

    private static void men() {
        OpinionFerry x = Check.made(FOLK);
        int[] ann = {0, 5, 0, 0, -1, 0, 6, 0};
        for (int what = 0; what < ann.length; what++) {
            CHECK.due("ann " + what, ann[what], x.man(0, what));
        }
        CHECK.due("eve's other one", 1, x.man(3, 4));
        CHECK.due("fay's other one", 3, x.man(4, 4));
        CHECK.due("bob's kin", 1, x.man(1, 6));
        CHECK.due("eve's kin", 0, x.man(3, 6));
        CHECK.due("kin told of one ahead", 14, Check.made("man m 1;man n 1;man o 1;man p 1;kin m n;kin m p;kin o m;").man(0, 6));
        CHECK.dueThrow("man 5", () -> x.man(5, 0));
        CHECK.dueThrow("man -1", () -> x.man(-1, 0));
        CHECK.dueThrow("man 0, 8", () -> x.man(0, 8));
        CHECK.dueThrow("man 0, -1", () -> x.man(0, -1));
        CHECK.dueThrow("man of extremes", () -> x.man(Integer.MIN_VALUE, Integer.MAX_VALUE));
        x.hire(0);
        x.hire(1);
        CHECK.due("ann and bob cross", 0, x.cross(3));
        x.turn(0, 0, 0);
        x.hire(0);
        int[] then = {1, 5, 1, 1, -1, 1, 6, 0};
        for (int what = 0; what < then.length; what++) {
            CHECK.due("ann then " + what, then[what], x.man(0, what));
        }
    }

    private static void voices() {
        OpinionFerry x = Check.made(FOLK);
        CHECK.due("eve thinks nothing", 0, x.thinks(3, 0));
        CHECK.due("eve says what bob does", -6, x.says(3, 0));
        // not by being a child: eve's own thought, not bob's
        CHECK.due("fay says what eve thinks", 0, x.says(4, 0));
        CHECK.due("fay thinks", 1, x.thinks(4, 0));
        x.lie(1, 0, 4);
        CHECK.due("bob lies", 4, x.says(1, 0));
        CHECK.due("bob thinks", -6, x.thinks(1, 0));
        CHECK.due("eve says bob's lie", 4, x.says(3, 0));
        x.lie(3, 0, -2);
        CHECK.due("eve's own lie", -2, x.says(3, 0));
        CHECK.due("fay says eve's lie", -2, x.says(4, 0));
        CHECK.due("on another ASK as ever", 2, x.says(3, 1));
        x.turn(1, 1, 9);
        CHECK.due("bob turned", 9, x.says(3, 1));
        CHECK.dueThrow("thinks 5, 0", () -> x.thinks(5, 0));
        CHECK.dueThrow("thinks 0, 2", () -> x.thinks(0, 2));
        CHECK.dueThrow("thinks -1, 0", () -> x.thinks(-1, 0));
        CHECK.dueThrow("says 5, 0", () -> x.says(5, 0));
        CHECK.dueThrow("says 0, 2", () -> x.says(0, 2));
        CHECK.dueThrow("says 0, -1", () -> x.says(0, -1));
    }

    private static void nows() {
        OpinionFerry x = Check.made(FOLK);
        CHECK.due("kin are together", 0, x.now(6));
        x.hire(0);
        x.hire(4);
        CHECK.due("hired", 17, x.now(7));
        CHECK.due("coin", 25, x.now(2));
        CHECK.due("ann crosses alone", 0, x.cross(1));
        CHECK.due("boat", 1, x.now(0));
        CHECK.due("trips", 1, x.now(3));
        CHECK.due("over", 1, x.now(4));
        CHECK.due("kin are parted", 2, x.now(6));
        CHECK.due("hired no more", 16, x.now(7));
        CHECK.due("coin stays", 25, x.now(2));
        x.raise(1);
        CHECK.due("raised", 1, x.now(1));
        CHECK.due("wet", 0, x.now(5));
        CHECK.due("now 8", -1, x.now(8));
        CHECK.due("now -1", -1, x.now(-1));
    }

    private static void whys() {
        OpinionFerry x = Check.made(FOLK);
        CHECK.due("nobody", 1, x.why(0));
        CHECK.due("too many, ahead of 3", 2, x.why(7));
        CHECK.due("does not balance", 3, x.why(1));
        CHECK.due("above the slack", 3, x.why(5));
        CHECK.due("fay says nothing", 0, x.why(16));
        CHECK.due("they can", 0, x.why(3));
        CHECK.due("no such one", -1, x.why(32));
        CHECK.due("no such ones", -1, x.why(-1));
        CHECK.due("no such one beside some", -1, x.why(33));
        x.hire(0);
        x.hire(2);
        CHECK.due("hired ones are foes yet", 4, x.why(5));
        x.lie(0, 1, -4);
        CHECK.due("not firm enough for foes", 0, x.why(5));
        x.lie(0, 1, -9);
        CHECK.due("the same, not as firmly", 4, x.why(5));
        x.lie(0, 1, 9);
        CHECK.due("all the same", 0, x.why(5));
        x.cross(5);
        CHECK.due("on the other bank", 1, x.why(8));
        CHECK.due("on both banks, ahead of 2", 1, x.why(15));
        OpinionFerry y = Check.made("slack 2;ask a;man m 1 a yes 2;man n 1 a no 2;man o 1 a no 3;");
        CHECK.due("just the slack", 0, y.why(1));
        CHECK.due("just the slack below 0", 0, y.why(2));
        CHECK.due("one below it", 3, y.why(4));
    }

    private static void crossings() {
        OpinionFerry x = Check.made(FOLK);
        CHECK.due("no such one", -1, x.cross(32));
        CHECK.due("nobody", 1, x.cross(0));
        CHECK.due("too many", 2, x.cross(7));
        CHECK.due("no balance", 3, x.cross(4));
        CHECK.due("nothing was done", -1, x.undo());
        x.hire(1);
        x.lie(0, 0, 1);
        x.lie(0, 1, 3);
        CHECK.due("two ASKS are lied on", 3, x.man(0, 7));
        CHECK.due("both cross", 0, x.cross(3));
        CHECK.due("no lies any more", 0, x.man(0, 7));
        CHECK.due("he thinks as he thought", 6, x.says(0, 0));
        CHECK.due("not hired any more", 0, x.man(1, 2));
        CHECK.due("a trip of his", 1, x.man(0, 5));
        CHECK.due("no trip of his", 0, x.man(2, 5));
        CHECK.due("eve is alone: what she thinks", 0, x.says(3, 0));
        CHECK.due("who stayed is not there", 1, x.cross(8));
        CHECK.due("both come back", 0, x.cross(3));
        CHECK.due("the near bank", 0, x.now(4));
        CHECK.due("two trips", 2, x.man(1, 5));
        CHECK.due("in all", 2, x.now(3));
        CHECK.due("eve again", -6, x.says(3, 0));
        x.lie(2, 0, 0);
        x.cross(16);
        CHECK.due("who stays keeps his lie", 1, x.man(2, 7));
    }

    private static void raisings() {
        OpinionFerry x = Check.made(FOLK);
        CHECK.due("already", 1, x.raise(0));
        CHECK.due("no such one", -1, x.raise(2));
        CHECK.due("no such one", -1, x.raise(-1));
        CHECK.due("raised", 0, x.raise(1));
        CHECK.due("already", 1, x.raise(1));
        CHECK.due("sums are on it", -3, x.sum(3));
        CHECK.due("back", 0, x.raise(0));
    }

    private static void hirings() {
        OpinionFerry x = Check.made(FOLK);
        CHECK.due("no such one", -1, x.hire(5));
        CHECK.due("no such one", -1, x.hire(-1));
        CHECK.due("hired", 0, x.hire(4));
        CHECK.due("already", 1, x.hire(4));
        CHECK.due("paid once", 20, x.now(2));
        CHECK.due("hired for nothing", 0, x.hire(3));
        CHECK.due("coin", 20, x.now(2));
        x.cross(24);
        CHECK.due("over, hired anew", 0, x.hire(4));
        CHECK.due("paid again", 40, x.now(2));
    }

    private static void lies() {
        OpinionFerry x = Check.made(FOLK);
        CHECK.due("no such man", -1, x.lie(5, 0, 1));
        CHECK.due("no such ASK", -1, x.lie(0, 2, 1));
        CHECK.due("too firm", -1, x.lie(0, 0, 10));
        CHECK.due("too firm", -1, x.lie(0, 0, -10));
        CHECK.due("he says so already", 2, x.lie(0, 0, 6));
        CHECK.due("a child says so already", 2, x.lie(3, 0, -6));
        CHECK.due("a lie", 0, x.lie(0, 0, -9));
        CHECK.due("told already", 2, x.lie(0, 0, -9));
        CHECK.due("told otherwise", 0, x.lie(0, 0, 9));
        CHECK.due("nothing is a lie, too", 0, x.lie(0, 0, 0));
        CHECK.due("kept", 1, x.man(0, 7));
        CHECK.due("said", 0, x.says(0, 0));
        CHECK.due("the truth after a lie", 0, x.lie(0, 0, 6));
        x.lie(0, 0, 0);
        CHECK.due("he crosses by it", 0, x.cross(1));
        CHECK.due("he is over, ahead of 2", 1, x.lie(0, 0, 6));
        CHECK.due("he is over", 1, x.lie(0, 0, 5));
        CHECK.due("no such one, ahead of 1", -1, x.lie(0, 0, 11));
    }

    private static void turns() {
        OpinionFerry x = Check.made(FOLK);
        CHECK.due("no such man", -1, x.turn(-1, 0, 1));
        CHECK.due("no such ASK", -1, x.turn(0, -1, 1));
        CHECK.due("too firm", -1, x.turn(0, 0, 10));
        CHECK.due("too firm", -1, x.turn(0, 0, -10));
        CHECK.due("he thinks so already", 1, x.turn(0, 0, 6));
        CHECK.due("a child thinks by itself", 0, x.turn(3, 0, -6));
        CHECK.due("dry without a trip", 0, x.now(5));
        x.lie(1, 0, 0);
        CHECK.due("a liar turns", 0, x.turn(1, 0, 5));
        CHECK.due("and lies on", 0, x.says(1, 0));
        CHECK.due("bob crosses", 0, x.cross(2));
        CHECK.due("and says what he thinks now", 5, x.says(1, 0));
        CHECK.due("who stayed turns", 0, x.turn(0, 0, 1));
        CHECK.due("dry yet", 0, x.now(5));
        CHECK.due("bob turns", 0, x.turn(1, 0, 0));
        CHECK.due("he is wet", 2, x.now(5));
        x.cross(2);
        CHECK.due("wet on the way back", 2, x.now(5));
        x.turn(1, 0, 1);
        CHECK.due("all with him are wet", 31, x.now(5));
        CHECK.due("as one of them says", 1, x.man(4, 3));
        OpinionFerry y = Check.made("slack 9;ask a;man m 1;man n 1;man o 1;");
        y.cross(3);
        y.turn(0, 0, 1);
        y.cross(1);
        y.turn(0, 0, 2);
        CHECK.due("who is wet stays so", 7, y.now(5));
    }

    private static void undos() {
        OpinionFerry x = Check.made(FOLK);
        CHECK.due("none", -1, x.undo());
        x.hire(0);
        x.hire(0);
        x.raise(1);
        x.lie(2, 1, 3);
        x.turn(1, 0, 2);
        x.cross(9);
        x.cross(8);
        CHECK.due("a crossing that was not done is none", 3, x.undo());
        CHECK.due("the turn", -6, x.thinks(1, 0));
        CHECK.due("the lie", 2, x.undo());
        CHECK.due("is gone", 0, x.man(2, 7));
        CHECK.due("the raising", 1, x.undo());
        CHECK.due("is gone", 0, x.now(1));
        CHECK.due("the hiring", 0, x.undo());
        CHECK.due("coin", 0, x.now(2));
        CHECK.due("hired", 0, x.now(7));
        CHECK.due("none", -1, x.undo());
        for (int i = 0; i < 10; i++) {
            x.raise(1 - i % 2);
        }
        x.lie(0, 0, 0);
        x.cross(1);
        x.turn(0, 0, 1);
        for (int left = 7; left >= 0; left--) {
            CHECK.due("eight are kept", left, x.undo());
            if (left == 7) {
                CHECK.due("dry", 0, x.now(5));
                CHECK.due("over", 1, x.now(4));
            }
            if (left == 6) {
                CHECK.due("near", 0, x.now(4));
                CHECK.due("his lie is back", 1, x.man(0, 7));
                CHECK.due("his trips", 0, x.man(0, 5));
                CHECK.due("all trips", 0, x.now(3));
            }
        }
        CHECK.due("the ninth is not", -1, x.undo());
        CHECK.due("raised by the fifth", 1, x.now(1));
        x.drawn(3, 7);
        CHECK.due("draws are one act", 0, x.undo());
        x.raise(0);
        x.hire(1);
        Check.log(x, "raise war;hire ann;", 1);
        CHECK.due("a LOG is one act", 2, x.undo());
        CHECK.due("it is undone", 2, x.now(7));
        Check.log(x, "raise war;", 0);
        CHECK.due("a LOG that is judged is none", 1, x.undo());
    }

    private static void noAsks() {
        OpinionFerry x = Check.made("man m 1;");
        CHECK.due("without ASKS", 3, x.why(1));
        CHECK.due("without ASKS", 3, x.cross(1));
        CHECK.due("nobody, ahead of 3", 1, x.why(0));
        CHECK.due("raise", -1, x.raise(0));
        CHECK.due("hire", 0, x.hire(0));
        CHECK.due("hired, but without ASKS", 3, x.why(1));
        CHECK.due("lie", -1, x.lie(0, 0, 1));
        CHECK.due("raised", -1, x.now(1));
    }
}
