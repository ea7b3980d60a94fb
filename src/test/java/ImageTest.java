/** Promises 39 (image) and 40 (restore). */
public final class ImageTest {
    private static final Check CHECK = new Check();
    private static final String FOLK = "seats 3;slack 2;ask a;ask b;man m 5 a yes 3;man n 4 a no 3;man o 1;kin m n;child o n;";

    public static void main(String[] args) {
        places();
        all();
        whatStays();
        CHECK.finish();
    }

    private static void places() {
        OpinionFerry x = new OpinionFerry();
        CHECK.due("nothing is kept", false, x.restore(0));
        CHECK.due("no such one", false, x.image(2));
        CHECK.due("no such one", false, x.image(-1));
        CHECK.due("kept", true, x.image(1));
        CHECK.due("not there", false, x.restore(0));
        CHECK.due("there", true, x.restore(1));
        CHECK.due("no such one", false, x.restore(2));
        CHECK.due("no such one", false, x.restore(-1));
        CHECK.due("no such one", false, x.restore(Integer.MIN_VALUE));
        Check.ferry(x, FOLK);
        CHECK.due("the other place", true, x.image(0));
        x.restore(1);
        CHECK.due("an empty FERRY", 0, x.count(1));
        x.restore(0);
        CHECK.due("three MEN", 3, x.count(1));
        x.cross(3);
        x.image(0);
        Check.ferry(x, "");
        x.restore(0);
        CHECK.due("kept anew", 3, x.now(4));
    }

    private static void all() {
        OpinionFerry x = Check.made(FOLK);
        x.hire(0);
        x.cross(1);
        x.turn(0, 0, 1);
        x.lie(1, 1, 7);
        x.raise(1);
        x.hire(2);
        Check.sentence(x, "with n");
        int[] nows = new int[8];
        int[][] men = new int[3][8];
        int[] voices = new int[6];
        read(x, nows, men, voices);
        CHECK.due("kept", true, x.image(0));
        x.cross(1);
        x.raise(0);
        x.turn(2, 0, 9);
        CHECK.due("another one", 2, Check.ferry(x, "ask zz;man yy 3;"));
        Check.sentence(x, "with yy");
        CHECK.due("restored", true, x.restore(0));
        int[] nowsThen = new int[8];
        int[][] menThen = new int[3][8];
        int[] voicesThen = new int[6];
        read(x, nowsThen, menThen, voicesThen);
        for (int i = 0; i < 8; i++) {
            CHECK.due("now " + i, nows[i], nowsThen[i]);
            for (int m = 0; m < 3; m++) {
                CHECK.due("man " + m + " " + i, men[m][i], menThen[m][i]);
            }
        }
        for (int i = 0; i < 6; i++) {
            CHECK.due("voice " + i, voices[i], voicesThen[i]);
        }
        int[] counts = {2, 3, 3, 2, 1};
        for (int what = 0; what < 5; what++) {
            CHECK.due("count " + what, counts[what], x.count(what));
        }
        CHECK.due("the SENTENCE", 2, x.said(-1));
        CHECK.due("of n", 1, x.said(0));
        CHECK.due("its names", -1, Check.log(x, "hire n;", 0));
        CHECK.due("nothing can be undone", -1, x.undo());
        x.cross(1);
        CHECK.due("an act of its own", 0, x.undo());
        x.turn(1, 0, 0);
        CHECK.due("the image is not changed by acts", true, x.restore(0));
        CHECK.due("n thinks", -3, x.thinks(1, 0));
    }

    private static void read(OpinionFerry x, int[] nows, int[][] men, int[] voices) {
        for (int i = 0; i < 8; i++) {
            nows[i] = x.now(i);
            for (int m = 0; m < 3; m++) {
                men[m][i] = x.man(m, i);
            }
        }
        for (int m = 0; m < 3; m++) {
            voices[m] = x.says(m, 1);
            voices[3 + m] = x.thinks(m, 0);
        }
    }

    private static void whatStays() {
        OpinionFerry x = Check.made(FOLK);
        x.image(1);
        CHECK.due("no SENTENCE is kept", 1, Check.sentence(x, "over"));
        Check.fits(x, 0, 3);
        x.couples();
        Check.log(x, "hire m;hire m;", 0);
        Check.ferry(x, "ask 1;");
        x.feed(0, 0, 0, 0, 0);
        x.hire(0);
        CHECK.due("restored", true, x.restore(1));
        CHECK.due("so there is none", -1, x.said(-1));
        CHECK.due("the tape stays", 20, x.count(5));
        CHECK.due("the FAULT stays", 1, x.fault());
        CHECK.due("fit stays", 1, x.fit(0));
        CHECK.due("couple stays", 1, x.couple(0));
        CHECK.due("logged stays", 21, x.logged(0));
        CHECK.due("nothing can be undone", -1, x.undo());
        x.hire(1);
        x.image(0);
        CHECK.due("an image leaves what can be undone", 0, x.undo());
    }
}
