/** Promises 1 (a new object), 2 (feed), 3 (end) and 41 (count). */
public final class TapeTest {
    private static final Check CHECK = new Check();

    public static void main(String[] args) {
        newObject();
        feed();
        end();
        count();
        CHECK.finish();
    }

    private static void newObject() {
        OpinionFerry x = new OpinionFerry();
        int[] counts = {0, 0, 4, 0, 0, 0};
        for (int what = 0; what < counts.length; what++) {
            CHECK.due("new count " + what, counts[what], x.count(what));
        }
        int[] nows = {0, -1, 0, 0, 0, 0, 0, 0};
        for (int what = 0; what < nows.length; what++) {
            CHECK.due("new now " + what, nows[what], x.now(what));
        }
        CHECK.due("new fault", 0, x.fault());
        CHECK.due("new fit", -101, x.fit(0));
        CHECK.due("new logged", -1, x.logged(0));
        CHECK.due("new couple", -1, x.couple(0));
        CHECK.due("new undo", -1, x.undo());
        CHECK.due("new stuck", 0, x.stuck());
        CHECK.dueThrow("new sum", () -> new OpinionFerry().sum(0));
    }

    private static void feed() {
        OpinionFerry x = new OpinionFerry();
        for (int i = 1; i <= 47; i++) {
            CHECK.due("feed " + i, 20 * i, x.feed(0, 0, 0, 0, 0));
        }
        CHECK.due("a full tape", -1, x.feed(0, 0, 0, 0, 0));
        CHECK.due("none came", 940, x.count(5));
        x.end(920);
        CHECK.due("just room", 940, x.feed(0, 0, 0, 0, 0));
        x.end(921);
        CHECK.due("a byte too little room", -1, x.feed(0, 0, 0, 0, 0));
        CHECK.due("it stays", 921, x.count(5));
        // the highest byte first: 'a' 's' 'k' ' ', then 'a' ';'
        OpinionFerry y = new OpinionFerry();
        y.feed(0x61736b20, 0x613b0000, 0, 0, 0);
        y.end(6);
        CHECK.due("bytes in their order", 1, y.ferry());
        OpinionFerry z = new OpinionFerry();
        z.feed(-1, 0, 0, 0, 0);
        CHECK.due("a byte of 255", -1, z.ferry());
    }

    private static void end() {
        OpinionFerry x = new OpinionFerry();
        CHECK.due("end 0 of none", true, x.end(0));
        CHECK.due("end 1 of none", false, x.end(1));
        CHECK.due("below 0", false, x.end(-1));
        x.feed(0, 0, 0, 0, 0);
        CHECK.due("more than there are", false, x.end(21));
        CHECK.due("the least int", false, x.end(Integer.MIN_VALUE));
        CHECK.due("nothing is cut off", 20, x.count(5));
        CHECK.due("all", true, x.end(20));
        CHECK.due("some", true, x.end(7));
        CHECK.due("cut off", 7, x.count(5));
        CHECK.due("they don't come back", false, x.end(8));
    }

    private static void count() {
        OpinionFerry x = Check.made("slack 9;seats 8;ask a;ask b;man m 0;man n 20;man o 1;kin o m;kin m n;");
        int[] counts = {2, 3, 8, 9, 2, 0};
        for (int what = 0; what < counts.length; what++) {
            CHECK.due("count " + what, counts[what], x.count(what));
        }
        CHECK.due("count 6", -1, x.count(6));
        CHECK.due("count -1", -1, x.count(-1));
        CHECK.due("count of the greatest", -1, x.count(Integer.MAX_VALUE));
    }
}
