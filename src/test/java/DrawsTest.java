/** Promises 33 (drawn) and 34 (odds). */
public final class DrawsTest {
    private static final Check CHECK = new Check();
    private static final String THREE = "slack 1;ask a;man m 1 a yes 1;man n 2 a no 1;man o 4 a yes 5;";

    public static void main(String[] args) {
        byHand();
        wrong();
        odds();
        CHECK.finish();
    }

    private static int draw(int[] x, int n) {
        x[0] = x[0] * 1103515245 + 12345;
        return (x[0] >>> 8) % n;
    }

    /** The same draws, made by the calls of the face. */
    private static int byCalls(OpinionFerry x, int n, int seed) {
        int[] dice = {seed};
        int crossed = 0;
        for (int i = 0; i < n; i++) {
            int set = 0;
            for (int m = 0; m < x.count(1); m++) {
                if (x.man(m, 0) == x.now(0) && draw(dice, 2) == 0) {
                    set |= 1 << m;
                }
            }
            if (x.cross(set) == 0) {
                crossed++;
            } else {
                x.hire(draw(dice, x.count(1)));
            }
        }
        return crossed;
    }

    private static void byHand() {
        int[] seeds = {0, 1, 2, 99, -1, -77777, Integer.MAX_VALUE, Integer.MIN_VALUE};
        int all = 0;
        for (int seed : seeds) {
            for (int n = 1; n <= 40; n += 3) {
                OpinionFerry x = Check.made(THREE);
                OpinionFerry y = Check.made(THREE);
                int want = byCalls(y, n, seed);
                all += want;
                CHECK.due("drawn " + n + " by " + seed, want, x.drawn(n, seed));
                for (int what = 0; what < 8; what++) {
                    CHECK.due("now " + what, y.now(what), x.now(what));
                    CHECK.due("of m " + what, y.man(0, what), x.man(0, what));
                }
                CHECK.due("undone at once", 0, x.undo());
                CHECK.due("as ahead", 0, x.now(2) + x.now(3) + x.now(4) + x.now(7));
            }
        }
        CHECK.due("there are crossings in it", true, all > 50);
    }

    private static void wrong() {
        OpinionFerry x = Check.made(THREE);
        CHECK.due("no times", -1, x.drawn(0, 1));
        CHECK.due("below 0", -1, x.drawn(-5, 1));
        CHECK.due("too many", -1, x.drawn(41, 1));
        CHECK.due("nothing to undo", -1, x.undo());
        CHECK.due("no MEN", -1, Check.made("ask a;").drawn(1, 1));
        OpinionFerry y = Check.made("man m 7;");
        CHECK.due("without ASKS nobody crosses", 0, y.drawn(40, 1));
        CHECK.due("but is hired, once", 7, y.now(2));
        CHECK.due("odds of nobody", -1, x.odds(3, 1, 1));
        CHECK.due("odds of nobody", -1, x.odds(-1, 1, 1));
        CHECK.due("no seeds", -1, x.odds(0, 0, 1));
        CHECK.due("too many seeds", -1, x.odds(0, 41, 1));
    }

    private static void odds() {
        for (int seed : new int[] {0, 12345, Integer.MAX_VALUE - 3}) {
            for (int m = 0; m < 3; m++) {
                OpinionFerry x = Check.made(THREE);
                x.lie(2, 0, 1);
                int want = 0;
                for (int i = 0; i < 40; i++) {
                    OpinionFerry y = Check.made(THREE);
                    y.lie(2, 0, 1);
                    y.drawn(20, seed + i);
                    want += y.man(m, 0);
                }
                CHECK.due("odds of " + m + " by " + seed, want, x.odds(m, 40, seed));
                CHECK.due("all stays", 0, x.now(2) + x.now(3) + x.now(4) + x.now(7));
                CHECK.due("his lie, too", 1, x.says(2, 0));
                CHECK.due("and what can be undone", 0, x.undo());
            }
        }
    }
}
