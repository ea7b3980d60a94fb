/** "Terms", 3, and promises 17 to 41: each sentence that names a bound has a test of its own here. */
public final class AnswerBoundsTest {
    private static final Check CHECK = new Check();
    private static final int LEAST = Integer.MIN_VALUE;
    private static final int GREATEST = Integer.MAX_VALUE;
    private static final String NO_ASKS = "slack 9;man m 1;man n 1;";
    private static final String NO_MEN = "ask a;ask b;";
    /** By a: m and n balance, o and p think nothing. */
    private static final String FOUR = "seats 2;ask a;ask b;man m 1 a yes 3 b yes 1;man n 2 a no 3 b no 1;"
            + "man o 3 b yes 2;man p 4;";
    private static final String THREE = "seats 2;slack 1;ask a;man m 1 a yes 1;man n 2 a no 1;man o 4 a yes 5;";
    private static final int[] NO_SUCH_SETS = {-1, 16, 17, 1024, LEAST, LEAST | 1, GREATEST};

    public static void main(String[] args) {
        sums();
        crews();
        crewsWithoutAsks();
        largest();
        stuck();
        trips();
        tripsAsTheySpeak();
        next();
        best();
        easy();
        changed();
        changedOfNone();
        fitsBytes();
        fitsSets();
        fitsEnds();
        fit();
        couples();
        couple();
        doubters();
        doubtersOfLikeOnes();
        jokes();
        jokesOfNone();
        foes();
        fullFerry();
        drawnTimes();
        drawnWraps();
        odds();
        logLives();
        logWrong();
        logLived();
        logged();
        sentence();
        said();
        saidOf();
        image();
        restore();
        restoreLeaves();
        count();
        CHECK.finish();
    }

    private static String ten(String ahead, String opinion) {
        StringBuilder text = new StringBuilder(ahead);
        for (char c = 'k'; c < 'u'; c++) {
            text.append("man ").append(c).append(" 2").append(opinion).append(';');
        }
        return text.toString();
    }

    private static void sums() {
        CHECK.by("What a set says on the raised ASK together (hired ones not). NoSuchElementException: no such ones, no ASKS");
        OpinionFerry x = Check.made(FOUR);
        CHECK.due("nobody", 0, x.sum(0));
        CHECK.due("m", 3, x.sum(1));
        CHECK.due("all", 0, x.sum(15));
        x.hire(0);
        CHECK.due("m is hired", 0, x.sum(1));
        CHECK.due("n alone speaks", -3, x.sum(3));
        x.raise(1);
        CHECK.due("on the raised ASK", 1, x.sum(15));
        for (int wrong : NO_SUCH_SETS) {
            CHECK.dueThrow("sum " + wrong, () -> x.sum(wrong));
        }
        OpinionFerry y = Check.made(NO_ASKS);
        CHECK.dueThrow("no ASKS", () -> y.sum(0));
        CHECK.dueThrow("no ASKS", () -> y.sum(1));
        OpinionFerry z = Check.made(NO_MEN);
        CHECK.due("nobody of nobody", 0, z.sum(0));
        CHECK.dueThrow("no MEN", () -> z.sum(1));
        CHECK.due("the most", 90, Check.made(ten("ask a;", " a yes 9")).sum(1023));
        CHECK.due("the least", -90, Check.made(ten("ask a;", " a no 9")).sum(1023));
        OpinionFerry w = Check.made(FOUR);
        w.cross(3);
        CHECK.due("of both banks", 0, w.sum(15));
    }

    private static void crews() {
        CHECK.by("CREWS: how many (k NONE), or the k-th, as bits (rising). NONE: none such");
        OpinionFerry x = Check.made(FOUR);
        int[] crews = {3, 4, 8, 12};
        CHECK.due("how many", 4, x.crews(-1));
        for (int k = 0; k < 4; k++) {
            CHECK.due("crew " + k, crews[k], x.crews(k));
        }
        for (int wrong : new int[] {4, 5, -2, LEAST, GREATEST}) {
            CHECK.due("crew " + wrong, -1, x.crews(wrong));
        }
        OpinionFerry one = Check.made("ask a;man m 1;");
        CHECK.due("one", 1, one.crews(-1));
        CHECK.due("it", 1, one.crews(0));
        CHECK.due("no other one", -1, one.crews(1));
        one.cross(1);
        CHECK.due("from the far bank, too", 1, one.crews(0));
        CHECK.due("no MEN", 0, Check.made(NO_MEN).crews(-1));
        CHECK.due("no MEN", -1, Check.made(NO_MEN).crews(0));
        OpinionFerry most = Check.made(ten("seats 8;ask a;", ""));
        CHECK.due("the most", 1012, most.crews(-1));
        CHECK.due("the first", 1, most.crews(0));
        CHECK.due("the last of eight at most", 1020, most.crews(1011));
        CHECK.due("none behind it", -1, most.crews(1012));
        OpinionFerry few = Check.made(ten("seats 1;ask a;", ""));
        CHECK.due("one seat", 10, few.crews(-1));
        CHECK.due("the last MAN", 512, few.crews(9));
    }

    private static void crewsWithoutAsks() {
        CHECK.by("3 without ASKS: no CREW");
        OpinionFerry x = Check.made(FOUR);
        CHECK.due("with ASKS", 4, x.crews(-1));
        Check.ferry(x, NO_ASKS);
        CHECK.due("how many", 0, x.crews(-1));
        CHECK.due("none", -1, x.crews(0));
        CHECK.due("no largest", -1, x.largest());
        CHECK.due("all are stuck", 3, x.stuck());
        CHECK.due("no couples", 0, x.couples());
        CHECK.due("no foes", 0, x.foes(-1));
        // whatever could cross ahead of it
        Check.ferry(x, "ask a;man m 1;man n 1;");
        CHECK.due("both", 3, x.crews(-1));
        CHECK.due("a couple", 1, x.couples());
        Check.ferry(x, NO_ASKS);
        CHECK.due("how many", 0, x.crews(-1));
        CHECK.due("no largest", -1, x.largest());
        CHECK.due("all are stuck", 3, x.stuck());
        CHECK.due("no couples", 0, x.couples());
        CHECK.due("alone", -1, x.couple(0));
        Check.ferry(x, "ask a;man m 1 a yes 1;");
        CHECK.due("nor m alone", 0, x.crews(-1));
    }

    private static void largest() {
        CHECK.by("The CREW of most (of like ones the least as bits); NONE: there is none");
        CHECK.due("of like ones the least", 3, Check.made(FOUR).largest());
        CHECK.due("the most ahead of the least", 6, Check.made("slack 1;ask a;man m 1 a yes 2;man n 1;man o 1;").largest());
        CHECK.due("all", 7, Check.made("ask a;man m 1;man n 1;man o 1;").largest());
        CHECK.due("one alone", 1, Check.made("ask a;man m 1;").largest());
        CHECK.due("nobody", -1, Check.made("ask a;man m 1 a yes 1;").largest());
        CHECK.due("no MEN", -1, Check.made(NO_MEN).largest());
        CHECK.due("no ASKS", -1, Check.made(NO_ASKS).largest());
        CHECK.due("the seats", 255, Check.made(ten("seats 8;ask a;", "")).largest());
        OpinionFerry x = Check.made(FOUR);
        x.cross(8);
        CHECK.due("on the boat's bank", 8, x.largest());
    }

    private static void stuck() {
        CHECK.by("MEN on the boat's bank who are in no CREW, as bits");
        OpinionFerry x = Check.made(FOUR);
        CHECK.due("none", 0, x.stuck());
        x.raise(1);
        CHECK.due("o", 4, x.stuck());
        x.cross(3);
        CHECK.due("o is on the other bank", 0, x.stuck());
        x.turn(0, 1, 2);
        CHECK.due("both there", 3, x.stuck());
        CHECK.due("no ASKS: all", 3, Check.made(NO_ASKS).stuck());
        CHECK.due("no MEN", 0, Check.made(NO_MEN).stuck());
        CHECK.due("one alone", 0, Check.made("ask a;man m 1;").stuck());
        CHECK.due("all ten", 1023, Check.made(ten("ask a;", " a yes 1")).stuck());
        // each of both goes in the CREW of all alone
        CHECK.due("all in one CREW", 0, Check.made("ask a;man m 1 a yes 1;man n 1 a no 1;").stuck());
    }

    private static void trips() {
        CHECK.by("TRIPS by an ASK, as if it were raised: how many; NONE: never, no such one");
        OpinionFerry x = Check.made(FOUR);
        CHECK.due("by a", 5, x.trips(0));
        CHECK.due("never by b", -1, x.trips(1));
        for (int wrong : new int[] {-1, 2, 9, LEAST, GREATEST}) {
            CHECK.due("trips " + wrong, -1, x.trips(wrong));
        }
        x.raise(1);
        CHECK.due("as if it were raised", 5, x.trips(0));
        CHECK.due("it is not", 1, x.now(1));
        CHECK.due("no ASKS", -1, Check.made(NO_ASKS).trips(0));
        CHECK.due("nobody is over already", 0, Check.made(NO_MEN).trips(1));
        OpinionFerry one = Check.made("ask a;ask b;man m 1 b yes 1;");
        CHECK.due("one alone", 1, one.trips(0));
        CHECK.due("never", -1, one.trips(1));
        one.cross(1);
        CHECK.due("all are over", 0, one.trips(0));
        CHECK.due("all are over, though by b he can't go", 0, one.trips(1));
        CHECK.due("one seat for two", -1, Check.made("seats 1;ask a;man m 1;man n 1;").trips(0));
        x.raise(0);
        x.cross(12);
        CHECK.due("one comes back first", 4, x.trips(0));
        CHECK.due("the lesser one", 4, x.next());
        x.cross(4);
        CHECK.due("then three", 3, x.trips(0));
        CHECK.due("m and n go", 3, x.next());
        CHECK.due("two seats for ten", 17, Check.made(ten("seats 2;ask a;", "")).trips(0));
        CHECK.due("eight seats for ten", 3, Check.made(ten("seats 8;ask a;", "")).trips(0));
        CHECK.due("nobody can go", -1, Check.made(ten("seats 8;ask a;", " a yes 1")).trips(0));
    }

    private static void tripsAsTheySpeak() {
        CHECK.by("if all go on saying what they say now, and who is hired now stays so");
        // n says m's 2 as long as they are on one bank; all go on saying so
        OpinionFerry x = Check.made("seats 2;slack 2;ask a;man m 1 a yes 2;man n 1 a no 9;man o 1;child n m;");
        CHECK.due("by what n says now", 3, x.trips(0));
        x.cross(1);
        CHECK.due("n says -9 now", -1, x.trips(0));
        OpinionFerry y = Check.made("seats 1;ask a;man m 1 a yes 2;");
        CHECK.due("never", -1, y.trips(0));
        y.hire(0);
        CHECK.due("hired", 1, y.trips(0));
        OpinionFerry z = Check.made("seats 2;ask a;man m 1 a yes 2;man n 1;man o 1;");
        CHECK.due("m can't go", -1, z.trips(0));
        z.hire(0);
        CHECK.due("hired as long as it takes", 3, z.trips(0));
        z.undo();
        z.lie(0, 0, 0);
        CHECK.due("he lies as long as it takes", 3, z.trips(0));
        CHECK.due("his lie is kept", 1, z.man(0, 7));
    }

    private static void next() {
        CHECK.by("Who crosses first by TRIPS by the raised ASK, as bits (of like ones the least); 0: all are over;"
                + " NONE: never, no ASKS");
        OpinionFerry x = Check.made(FOUR);
        CHECK.due("o and p", 12, x.next());
        x.raise(1);
        CHECK.due("never", -1, x.next());
        CHECK.due("no ASKS", -1, Check.made(NO_ASKS).next());
        CHECK.due("no ASKS, no MEN", -1, new OpinionFerry().next());
        CHECK.due("nobody is over already", 0, Check.made(NO_MEN).next());
        OpinionFerry one = Check.made("ask a;man m 1;");
        CHECK.due("one alone", 1, one.next());
        one.cross(1);
        CHECK.due("all are over", 0, one.next());
        one.turn(0, 0, 9);
        CHECK.due("all are over, though he can't go", 0, one.next());
        CHECK.due("all at once", 3, Check.made("ask a;man m 1 a yes 1;man n 1 a no 1;").next());
        CHECK.due("of like ones the least", 3, Check.made("seats 2;ask a;man m 1;man n 1;man o 1;").next());
        CHECK.due("of ten", 7, Check.made(ten("seats 8;ask a;", "")).next());
    }

    private static void best() {
        CHECK.by("The ASK by which TRIPS are fewest (of like ones the first); NONE: by none");
        CHECK.due("by a", 0, Check.made(FOUR).best());
        CHECK.due("of like ones the first", 0, Check.made("ask a;ask b;man m 1;").best());
        CHECK.due("the second is the first that goes", 1, Check.made("ask a;ask b;ask c;man m 1 a yes 1;").best());
        CHECK.due("the last of nine", 8, Check.made("ask a;ask b;ask c;ask d;ask e;ask f;ask g;ask h;ask i;"
                + "man m 1 a yes 1 b yes 1 c yes 1 d yes 1 e yes 1 f yes 1 g yes 1 h yes 1;").best());
        CHECK.due("by none", -1, Check.made("ask a;man m 1 a yes 1;").best());
        CHECK.due("no ASKS", -1, Check.made(NO_ASKS).best());
        CHECK.due("nobody", 0, Check.made(NO_MEN).best());
        OpinionFerry x = Check.made("seats 3;ask a;ask b;man m 1 a yes 1;man n 1 a yes 1;man o 1 a no 2;man p 1;man q 1;");
        CHECK.due("5 by a, 3 by b", 1, x.best());
        x.cross(24);
        CHECK.due("the raised one stays", 0, x.now(1));
    }

    private static void easy() {
        CHECK.by("ASKS by which all on the boat's bank could cross at once (by 3 alone), as bits");
        OpinionFerry x = Check.made(FOUR);
        CHECK.due("a, whatever the seats", 1, x.easy());
        x.cross(3);
        CHECK.due("m and n by both", 3, x.easy());
        CHECK.due("no ASKS", 0, Check.made(NO_ASKS).easy());
        CHECK.due("nobody says anything", 3, Check.made(NO_MEN).easy());
        CHECK.due("nine", 511, Check.made("ask a;ask b;ask c;ask d;ask e;ask f;ask g;ask h;ask i;man m 1;").easy());
        CHECK.due("just the slack", 3, Check.made("slack 2;ask a;ask b;ask c;ask d;"
                + "man m 1 a yes 2 b no 2 c yes 3 d no 3;").easy());
        OpinionFerry y = Check.made("slack 9;ask a;ask b;man m 1 a yes 5 b yes 5;man n 1 a no 5 b yes 4;");
        y.turn(1, 1, 5);
        CHECK.due("foes, by 3 alone", 1, y.easy());
        y.hire(0);
        CHECK.due("hired ones say nothing", 3, y.easy());
    }

    private static void changed() {
        CHECK.by("CHANGED: each one by whose saying the other thing instead (just as firmly) it would");
        OpinionFerry x = Check.made("slack 1;ask a;man m 1 a yes 6;man n 1 a yes 5;man o 1 a yes 1;man p 1 a yes 7;");
        // 6 + 5: m the other way gives -1, n the other way 1
        CHECK.due("just the slack, both ways", 3, x.changed(3));
        // 6 + 5 + 1 = 12: m gives 0, n gives 2
        CHECK.due("m alone", 1, x.changed(7));
        // 5 + 7 = 12: n gives 2, p gives -2
        CHECK.due("one beyond the slack", 0, x.changed(10));
        CHECK.due("one alone", 0, x.changed(1));
        CHECK.due("it balances", -1, x.changed(4));
        x.hire(2);
        // 6 + 5 = 11 without o, who is hired
        CHECK.due("a hired one changes nothing", 3, x.changed(7));
        OpinionFerry y = Check.made("seats 1;ask a;ask b;man m 1 a no 2 b yes 5;man n 1 a no 2 b no 5;man o 1;");
        y.hire(2);
        y.cross(4);
        CHECK.due("with no regard to 1 and 2", 3, y.changed(7));
        // the child goes on saying what it says
        OpinionFerry z = Check.made("ask a;man m 1 a yes 2;man n 1;child n m;");
        CHECK.due("m or his child", 3, z.changed(3));
    }

    private static void changedOfNone() {
        CHECK.by("0: none; NONE: it balances, no such ones, no ASKS");
        OpinionFerry x = Check.made(FOUR);
        CHECK.due("none", 0, x.changed(1));
        CHECK.due("nobody balances", -1, x.changed(0));
        CHECK.due("both balance", -1, x.changed(3));
        for (int wrong : NO_SUCH_SETS) {
            CHECK.due("changed " + wrong, -1, x.changed(wrong));
        }
        CHECK.due("no ASKS", -1, Check.made(NO_ASKS).changed(1));
        CHECK.due("no MEN", -1, Check.made(NO_MEN).changed(0));
    }

    private static int fits(OpinionFerry x, int m, String bytes) {
        Check.feed(x, bytes);
        return x.fits(m);
    }

    private static void fitsBytes() {
        CHECK.by("THINKS of a MAN by the tape (an even number of bytes, 2 to 40): how many ways; NONE: not as told,"
                + " no such one, no ASKS");
        OpinionFerry x = Check.made(FOUR);
        CHECK.due("0 bytes", -1, fits(x, 0, ""));
        CHECK.due("1 byte", -1, fits(x, 0, "\0"));
        CHECK.due("2 bytes", 1, fits(x, 0, "\0\1"));
        CHECK.due("3 bytes", -1, fits(x, 0, "\0\1\0"));
        CHECK.due("4 bytes", 1, fits(x, 0, "\0\1\0\1"));
        CHECK.due("38 bytes", 1, fits(x, 0, "\0\1".repeat(19)));
        CHECK.due("39 bytes", -1, fits(x, 0, "\0\1".repeat(19) + "\0"));
        CHECK.due("40 bytes", 1, fits(x, 0, "\0\1".repeat(20)));
        CHECK.due("41 bytes", -1, fits(x, 0, "\0\1".repeat(20) + "\0"));
        CHECK.due("42 bytes", -1, fits(x, 0, "\0\1".repeat(21)));
        CHECK.due("940 bytes", -1, fits(x, 0, "\0\1".repeat(470)));
        for (int wrong : new int[] {-1, 4, 10, LEAST, GREATEST}) {
            CHECK.due("fits " + wrong, -1, fits(x, wrong, "\0\1"));
            CHECK.due("the tape is empty", 0, x.count(5));
        }
        CHECK.due("no ASKS", -1, fits(Check.made(NO_ASKS), 0, "\0\1"));
        CHECK.due("no MEN", -1, fits(Check.made(NO_MEN), 0, "\0\0"));
        // what lay on the tape ahead is not read
        CHECK.due("two sets", 0, fits(x, 0, "\0\1\0\3"));
        CHECK.due("one set", 1, fits(x, 0, "\0\3"));
        x.feed(0x00030001, 0x00010001, 0x00010001, 0x00010001, 0x00010001);
        x.end(2);
        CHECK.due("the first set alone", 1, x.fits(0));
        x.feed(0x00030001, 0x00010001, 0x00010001, 0x00010001, 0x00010001);
        x.end(4);
        CHECK.due("two sets", 0, x.fits(0));
    }

    private static void fitsSets() {
        CHECK.by("sets as two bytes, the higher first; each set that he is in balances");
        OpinionFerry x = Check.made(FOUR);
        CHECK.due("no such one in it", -1, Check.fits(x, 0, 1, 16));
        CHECK.due("no such one in the last", -1, fits(x, 0, "\0\1".repeat(19) + "\0\20"));
        CHECK.due("nor in the higher byte", -1, Check.fits(x, 0, 1, 0x8001));
        CHECK.due("the lower one first would be one", -1, fits(x, 0, "\1\0"));
        CHECK.due("sets without him", 19, Check.fits(x, 0, 2, 0, 14));
        CHECK.due("the last of twenty decides", 0, fits(x, 0, "\0\1".repeat(19) + "\0\3"));
        CHECK.due("the first of twenty decides", 0, fits(x, 0, "\0\3" + "\0\1".repeat(19)));
        OpinionFerry y = Check.made(ten("slack 3;ask a;", " a yes 1"));
        // all ten: nine others say 9
        CHECK.due("all ten", 4, fits(y, 9, "\3\377"));
        CHECK.due("least", -9, y.fit(0));
        CHECK.due("greatest", -6, y.fit(1));
        CHECK.due("the ninth and the tenth", 7, fits(y, 8, "\3\0"));
        CHECK.due("least", -4, y.fit(0));
        CHECK.due("the eleventh", -1, fits(y, 8, "\7\0"));
    }

    private static void fitsEnds() {
        CHECK.by("what a MAN can have said on the raised ASK (-9 to 9; all others as they say now, hired ones as they are)");
        OpinionFerry x = Check.made("slack 1;ask a;man m 1;man n 1 a yes 8;man o 1 a no 9;man p 1 a yes 9;child m n;");
        CHECK.due("-9 to -7", 3, Check.fits(x, 0, 3));
        CHECK.due("least", -9, x.fit(0));
        CHECK.due("greatest", -7, x.fit(1));
        CHECK.due("8 and 9", 2, Check.fits(x, 0, 5));
        CHECK.due("least", 8, x.fit(0));
        CHECK.due("greatest", 9, x.fit(1));
        CHECK.due("no -17", 0, Check.fits(x, 0, 11));
        CHECK.due("all", 19, Check.fits(x, 0, 0));
        x.hire(1);
        CHECK.due("a hired one as he is", 3, Check.fits(x, 0, 3));
        CHECK.due("least", -1, x.fit(0));
        x.hire(0);
        CHECK.due("he is hired himself: in any way", 19, Check.fits(x, 0, 3));
        CHECK.due("he is hired himself: in no way", 0, Check.fits(x, 0, 5));
        OpinionFerry y = Check.made("slack 9;ask a;man m 1;");
        CHECK.due("all within the slack", 19, Check.fits(y, 0, 1));
        y.hire(0);
        OpinionFerry z = Check.made("ask a;man m 1;man n 1 a yes 1;");
        z.hire(0);
        CHECK.due("hired, and the other one does not balance", 0, Check.fits(z, 0, 3));
        CHECK.due("hired, alone", 19, Check.fits(z, 0, 1));
    }

    private static void fit() {
        CHECK.by("The least (0), the greatest (1) of them by the latest fits() that was 1 or more; NONE - 100: another what,"
                + " or ahead of any");
        OpinionFerry x = Check.made(FOUR);
        CHECK.due("ahead of any", -101, x.fit(0));
        CHECK.due("ahead of any", -101, x.fit(1));
        CHECK.due("no way", 0, Check.fits(x, 0, 1, 3));
        CHECK.due("ahead of any that was", -101, x.fit(0));
        CHECK.due("NONE", -1, Check.fits(x, 4, 1));
        CHECK.due("ahead of any that was", -101, x.fit(1));
        CHECK.due("one way", 1, Check.fits(x, 0, 3));
        CHECK.due("least", 3, x.fit(0));
        CHECK.due("greatest", 3, x.fit(1));
        for (int wrong : new int[] {-1, 2, LEAST, GREATEST}) {
            CHECK.due("fit " + wrong, -101, x.fit(wrong));
        }
        Check.fits(x, 0, 1, 3);
        Check.fits(x, 0, 16);
        CHECK.due("the latest that was", 3, x.fit(0));
        CHECK.due("all ways", 19, Check.fits(x, 0, 2));
        CHECK.due("least", -9, x.fit(0));
        CHECK.due("greatest", 9, x.fit(1));
    }

    private static void couples() {
        CHECK.by("COUPLES: most pairs of two who can cross as two (by 3 and 4 alone, wherever they are),"
                + " nobody in two of them");
        CHECK.due("no MEN", 0, Check.made(NO_MEN).couples());
        CHECK.due("no ASKS", 0, Check.made(NO_ASKS).couples());
        CHECK.due("one alone", 0, Check.made("ask a;man m 1;").couples());
        CHECK.due("two", 1, Check.made("ask a;man m 1;man n 1;").couples());
        CHECK.due("three", 1, Check.made("ask a;man m 1;man n 1;man o 1;").couples());
        CHECK.due("ten, on one seat", 5, Check.made(ten("seats 1;ask a;", "")).couples());
        CHECK.due("none", 0, Check.made(ten("ask a;", " a yes 1")).couples());
        CHECK.due("just the slack", 1, Check.made("slack 2;ask a;man m 1 a yes 1;man n 1 a yes 1;").couples());
        CHECK.due("one beyond it", 0, Check.made("slack 2;ask a;man m 1 a no 2;man n 1 a no 1;").couples());
        OpinionFerry x = Check.made("slack 9;ask a;ask b;man m 1 a yes 5 b yes 5;man n 1 a no 5 b yes 5;");
        CHECK.due("foes", 0, x.couples());
        x.turn(1, 1, 4);
        CHECK.due("no foes", 1, x.couples());
        OpinionFerry y = Check.made(FOUR);
        y.cross(8);
        CHECK.due("wherever they are", 2, y.couples());
        // whatever was asked ahead of it
        for (String text : new String[] {"ask a;man m 1;", "ask a;man m 1;man n 1;", FOUR, ten("ask a;", "")}) {
            OpinionFerry z = Check.made(text);
            int due = z.couples();
            z.trips(0);
            CHECK.due("as ahead of trips()", due, z.couples());
            z.crews(-1);
            CHECK.due("as ahead of crews()", due, z.couples());
            CHECK.due("as ahead of couples()", Check.made(text).trips(0), z.trips(0));
        }
    }

    private static void couple() {
        CHECK.by("With whom a MAN is by the latest couples() (of like ones the first: MAN by MAN with the least one ahead,"
                + " alone behind all); NONE: alone, no such one, or ahead of any");
        OpinionFerry x = Check.made("ask a;man m 1;man n 1;man o 1;");
        CHECK.due("ahead of any", -1, x.couple(0));
        x.couples();
        CHECK.due("m with n", 1, x.couple(0));
        CHECK.due("n with m", 0, x.couple(1));
        CHECK.due("o alone", -1, x.couple(2));
        for (int wrong : new int[] {-1, 3, 9, 10, LEAST, GREATEST}) {
            CHECK.due("couple " + wrong, -1, x.couple(wrong));
        }
        x.turn(0, 0, 1);
        CHECK.due("by the latest couples()", 1, x.couple(0));
        x.couples();
        CHECK.due("m alone now", -1, x.couple(0));
        CHECK.due("n with o", 2, x.couple(1));
        // m could be with n, but then o would be alone: most pairs come ahead
        OpinionFerry y = Check.made("slack 1;ask a;man m 1 a yes 1;man n 1 a no 2;man o 1 a no 1;man p 1 a yes 3;");
        CHECK.due("two pairs", 2, y.couples());
        CHECK.due("m with o", 2, y.couple(0));
        CHECK.due("n with p", 3, y.couple(1));
        // m is alone only if no most pairs have him
        OpinionFerry z = Check.made("ask a;man m 1 a yes 1;man n 1 a no 1;man o 1 a yes 1;");
        CHECK.due("one pair", 1, z.couples());
        CHECK.due("m ahead of o", 1, z.couple(0));
        CHECK.due("o alone", -1, z.couple(2));
        OpinionFerry w = Check.made(ten("ask a;", ""));
        w.couples();
        CHECK.due("the last", 8, w.couple(9));
        Check.ferry(w, "ask a;man m 1;");
        CHECK.due("no such one any more", -1, w.couple(9));
    }

    private static void doubters() {
        CHECK.by("DOUBTERS of a set, as bits (0: it balances); NONE: no such ones, no ASKS");
        OpinionFerry x = Check.made(FOUR);
        CHECK.due("nobody", 0, x.doubters(0));
        CHECK.due("it balances", 0, x.doubters(15));
        CHECK.due("himself", 1, x.doubters(1));
        for (int wrong : NO_SUCH_SETS) {
            CHECK.due("doubters " + wrong, -1, x.doubters(wrong));
        }
        CHECK.due("no ASKS", -1, Check.made(NO_ASKS).doubters(0));
        CHECK.due("no MEN", 0, Check.made(NO_MEN).doubters(0));
        CHECK.due("nobody is hired by it", 0, x.now(7));
        CHECK.due("all ten", 1023, Check.made(ten("ask a;", " a yes 9")).doubters(1023));
        CHECK.due("just the slack", 0, Check.made("slack 9;ask a;man m 1 a yes 9;").doubters(1));
        CHECK.due("one beyond it", 1, Check.made("slack 8;ask a;man m 1 a yes 9;").doubters(1));
        CHECK.due("one beyond it, below 0", 1, Check.made("slack 8;ask a;man m 1 a no 9;").doubters(1));
        CHECK.due("eight must go", 255, Check.made(ten("slack 2;ask a;", " a yes 1")).doubters(1023));
    }

    private static void doubtersOfLikeOnes() {
        CHECK.by("the least WAGES of some of it who are hired anew so that it balances; of like ones the fewest,"
                + " then the least as bits");
        OpinionFerry x = Check.made("ask a;man m 20 a yes 4;man n 9 a yes 2;man o 10 a yes 2;man p 0 a no 4;");
        // 4 + 2 + 2 - 4 = 4: m for 20, or n and o for 19
        CHECK.due("least wages, though more of them", 6, x.doubters(15));
        x.hire(1);
        // n is hired: 4 + 2 - 4 = 2: o for 10
        CHECK.due("hired anew is o alone", 4, x.doubters(15));
        // p for nothing leaves 4, o leaves -2, both leave 2
        CHECK.due("p for nothing", 8, x.doubters(8));
        OpinionFerry y = Check.made("ask a;man m 10 a yes 2;man n 10 a yes 2;man o 20 a yes 4;man p 1 a no 4;man q 0;");
        // 2 + 2 + 4 - 4 = 4: m and n for 20, or o for 20
        CHECK.due("of like wages the fewest", 4, y.doubters(31));
        OpinionFerry z = Check.made("ask a;man m 3 a yes 2;man n 3 a yes 2;man o 3 a yes 2;man p 9 a no 2;");
        // 4 too much: any two of three
        CHECK.due("the least as bits", 3, z.doubters(15));
        OpinionFerry w = Check.made("ask a;man m 0 a yes 1;man n 0;man o 0;");
        CHECK.due("who costs nothing is not hired for nothing", 1, w.doubters(7));
        CHECK.due("twenty each", 3, Check.made("ask a;man m 20 a yes 9;man n 20 a yes 9;").doubters(3));
    }

    private static void joke(OpinionFerry x, int set, int above, int below) {
        CHECK.due("above of " + set, above, x.jokes(set, 0));
        CHECK.due("below of " + set, below, x.jokes(set, 1));
    }

    private static void jokes() {
        CHECK.by("says 1 less (1 of 4), the same (2 of 4), or 1 more (1 of 4): how likely it balances, as a fraction"
                + " in least terms (0 above, 1 below)");
        OpinionFerry x = Check.made("slack 1;ask a;man m 1;man n 1 a yes 1;man o 1 a no 2;man p 1 a yes 3;");
        joke(x, 0, 1, 1);
        joke(x, 1, 1, 1);
        joke(x, 2, 3, 4);
        joke(x, 4, 1, 4);
        joke(x, 8, 0, 1);
        // two of them: 1 4 6 4 1 of 16 on -2 to 2
        joke(x, 3, 11, 16);
        joke(x, 5, 5, 16);
        joke(x, 9, 1, 16);
        joke(x, 12, 11, 16);
        x.hire(3);
        joke(x, 8, 1, 1);
        joke(x, 10, 3, 4);
        OpinionFerry y = Check.made("slack 9;ask a;man m 1 a yes 9;man n 1 a no 9;");
        joke(y, 1, 3, 4);
        joke(y, 2, 3, 4);
        joke(y, 3, 1, 1);
        OpinionFerry z = Check.made(ten("ask a;", " a yes 1"));
        // all ten must say 1 less
        joke(z, 1023, 1, 1 << 20);
        joke(z, 511, 1, 1 << 18);
        joke(Check.made(ten("slack 9;ask a;", "")), 1023, 524287, 524288);
    }

    private static void jokesOfNone() {
        CHECK.by("NoSuchElementException: no such ones, no ASKS");
        OpinionFerry x = Check.made(FOUR);
        for (int wrong : NO_SUCH_SETS) {
            CHECK.dueThrow("jokes " + wrong, () -> x.jokes(wrong, 0));
            CHECK.dueThrow("jokes " + wrong, () -> x.jokes(wrong, 1));
        }
        for (int wrong : new int[] {-1, 2, LEAST, GREATEST}) {
            CHECK.dueThrow("jokes 1 " + wrong, () -> x.jokes(1, wrong));
        }
        OpinionFerry y = Check.made(NO_ASKS);
        CHECK.dueThrow("no ASKS", () -> y.jokes(0, 0));
        CHECK.dueThrow("no ASKS", () -> y.jokes(1, 1));
        joke(Check.made(NO_MEN), 0, 1, 1);
    }

    private static void foes() {
        CHECK.by("Pairs of MEN who can never cross together as they speak now (4): how many (k NONE), or the k-th:"
                + " 10 times the lesser and the greater. NONE: none such");
        OpinionFerry x = Check.made("ask a;ask b;man m 1 a yes 5 b yes 5;man n 1 a no 5 b yes 5;man o 1 a yes 5 b no 5;man p 1;");
        CHECK.due("how many", 2, x.foes(-1));
        CHECK.due("m and n", 1, x.foes(0));
        CHECK.due("m and o", 2, x.foes(1));
        for (int wrong : new int[] {2, -2, LEAST, GREATEST}) {
            CHECK.due("foes " + wrong, -1, x.foes(wrong));
        }
        x.lie(0, 0, 4);
        CHECK.due("not as m speaks now", 0, x.foes(-1));
        CHECK.due("none", -1, x.foes(0));
        x.lie(3, 0, 5);
        x.lie(3, 1, 5);
        CHECK.due("p with n", 13, x.foes(0));
        CHECK.due("p with o", 23, x.foes(1));
        CHECK.due("no MEN", 0, Check.made(NO_MEN).foes(-1));
        CHECK.due("no ASKS", 0, Check.made(NO_ASKS).foes(-1));
        CHECK.due("no ASKS", -1, Check.made(NO_ASKS).foes(0));
        CHECK.due("one ASK is not another one", 0, Check.made("ask a;man m 1 a yes 9;man n 1 a no 9;").foes(-1));
        StringBuilder all = new StringBuilder("ask a;ask b;ask c;ask d;");
        for (int m = 0; m < 10; m++) {
            all.append("man ").append((char) ('k' + m)).append(" 1 a yes 5");
            for (int bit = 0; bit < 3; bit++) {
                all.append(' ').append((char) ('b' + bit)).append((m >> bit & 1) == 1 ? " yes 5" : " no 5");
            }
            all.append(';');
        }
        OpinionFerry y = Check.made(all.toString());
        // the ninth and the tenth say all that the first and the second do
        CHECK.due("all pairs but two", 43, y.foes(-1));
        CHECK.due("the last", 89, y.foes(42));
        CHECK.due("the first", 1, y.foes(0));
    }

    private static String full(int firmOnLast) {
        StringBuilder text = new StringBuilder("seats 8;slack 0;");
        for (char a = 'a'; a < 'j'; a++) {
            text.append("ask ").append(a).append(';');
        }
        for (int m = 0; m < 10; m++) {
            text.append("man ").append((char) ('k' + m)).append(" 2");
            for (char a = 'a'; a < 'h'; a++) {
                text.append(' ').append(a).append(m % 2 == 0 ? " yes 4" : " no 4");
            }
            text.append(" h").append(m % 2 == 0 ? " yes 5" : " no 5").append(" i no ").append(firmOnLast).append(';');
        }
        return text.toString();
    }

    private static void fullFerry() {
        CHECK.by("9 ASKS, 10 MEN at most: all count, the last ones, too");
        OpinionFerry x = Check.made(full(5));
        CHECK.due("even ones and odd ones are foes", 25, x.foes(-1));
        CHECK.due("the last pair", 89, x.foes(24));
        CHECK.due("none can go with a foe, or with a like one", 0, x.crews(-1));
        CHECK.due("all are stuck", 1023, x.stuck());
        CHECK.due("no couples", 0, x.couples());
        CHECK.due("never", -1, x.best());
        CHECK.due("all at once, by 3 alone", 255, x.easy());
        OpinionFerry y = Check.made(full(4));
        CHECK.due("no foes", 0, y.foes(-1));
        // as many even ones as odd ones, 1 to 4 of each
        CHECK.due("crews", 25 + 100 + 100 + 25, y.crews(-1));
        CHECK.due("the last one", 1020, y.crews(249));
        CHECK.due("couples", 5, y.couples());
        CHECK.due("the last two", 8, y.couple(9));
        CHECK.due("by the first ASK", 3, y.trips(0));
        CHECK.due("never by the last one", -1, y.trips(8));
        CHECK.due("the last one is raised", 0, y.raise(8));
        CHECK.due("all say no", -40, y.sum(1023));
        CHECK.due("all must doubt", 1023, y.doubters(1023));
        CHECK.due("the last MAN lies", 0, y.lie(9, 8, 0));
        CHECK.due("and goes alone", 512, y.crews(0));
        CHECK.due("he crosses", 0, y.cross(512));
        CHECK.due("he turns", 0, y.turn(9, 8, 9));
        CHECK.due("he is wet", 512, y.now(5));
        CHECK.due("by a SENTENCE", 3, Check.sentence(y, "with t and yes i and firm>8"));
        CHECK.due("of him", 9, y.said(0));
        CHECK.due("of him alone", 1, y.said(-1));
    }

    private static void drawnTimes() {
        CHECK.by("n (1 to 40) times DRAWN by a seed: how many crossings; NONE: not as told, no MEN");
        OpinionFerry x = Check.made(THREE);
        for (int wrong : new int[] {0, -1, 41, LEAST, GREATEST}) {
            CHECK.due("drawn " + wrong, -1, x.drawn(wrong, 1));
        }
        CHECK.due("nothing was done", -1, x.undo());
        CHECK.due("nobody is hired", 0, x.now(7));
        CHECK.due("no MEN", -1, Check.made(NO_MEN).drawn(1, 1));
        CHECK.due("once", 1, x.drawn(1, 0));
        CHECK.due("m and n", 3, x.now(4));
        CHECK.due("undone", 0, x.undo());
        CHECK.due("forty times", 19, x.drawn(40, 0));
        CHECK.due("over", 4, x.now(4));
        CHECK.due("coin", 36, x.now(2));
        CHECK.due("hired", 2, x.now(7));
        CHECK.due("trips", 19, x.now(3));
        CHECK.due("once more: of these alone", true, x.drawn(40, 0) < 41);
        OpinionFerry y = Check.made(NO_ASKS);
        CHECK.due("no ASKS: nobody crosses", 0, y.drawn(40, 1));
        CHECK.due("both are hired, once each", 2, y.now(2));
    }

    private static void drawn(int seed, int crossings, int over, int coin, int hired) {
        OpinionFerry x = Check.made(THREE);
        CHECK.due("crossings by " + seed, crossings, x.drawn(40, seed));
        CHECK.due("over by " + seed, over, x.now(4));
        CHECK.due("coin by " + seed, coin, x.now(2));
        CHECK.due("hired by " + seed, hired, x.now(7));
    }

    private static void drawnWraps() {
        CHECK.by("x becomes x * 1103515245 + 12345 (an int, wrapping), the draw is (x >>> 8) % n");
        drawn(0, 19, 4, 36, 2);
        drawn(1, 20, 0, 34, 6);
        drawn(-1, 17, 2, 34, 5);
        drawn(GREATEST, 20, 5, 42, 5);
        drawn(LEAST, 17, 7, 27, 7);
        int[] seeds = {0, 1, 2, -1, GREATEST, LEAST};
        int[] goes = {1, 1, 0, 0, 0, 1};
        for (int i = 0; i < seeds.length; i++) {
            OpinionFerry x = Check.made("ask a;man m 7;");
            CHECK.due("one alone by " + seeds[i], goes[i], x.drawn(1, seeds[i]));
            CHECK.due("if not, he is hired", goes[i] == 1 ? 0 : 7, x.now(2));
            CHECK.due("over", goes[i], x.now(4));
        }
    }

    private static void odds() {
        CHECK.by("Of n (1 to 40) seeds x, x and 1, .. by how many a MAN is over behind 20 times DRAWN from now on;"
                + " NONE: no such ones");
        OpinionFerry x = Check.made(THREE);
        for (int wrong : new int[] {-1, 3, 10, LEAST, GREATEST}) {
            CHECK.due("odds of " + wrong, -1, x.odds(wrong, 1, 1));
        }
        for (int wrong : new int[] {0, -1, 41, LEAST, GREATEST}) {
            CHECK.due("of " + wrong + " seeds", -1, x.odds(0, wrong, 1));
        }
        CHECK.due("no MEN", -1, Check.made(NO_MEN).odds(0, 1, 1));
        int[] one = {0, 1, 0};
        int[] forty = {14, 18, 20};
        int[] last = {1, 1, 1};
        int[] wrapped = {1, 2, 2};
        for (int m = 0; m < 3; m++) {
            CHECK.due("one seed of " + m, one[m], x.odds(m, 1, 5));
            CHECK.due("forty seeds of " + m, forty[m], x.odds(m, 40, 5));
            CHECK.due("the greatest seed of " + m, last[m], x.odds(m, 1, GREATEST));
            CHECK.due("the least one behind it of " + m, wrapped[m], x.odds(m, 2, GREATEST));
        }
        for (int what = 0; what < 8; what++) {
            CHECK.due("all stays " + what, 0, x.now(what));
        }
        CHECK.due("nothing to undo", -1, x.undo());
        CHECK.due("no ASKS: nobody is over", 0, Check.made(NO_ASKS).odds(1, 40, 3));
    }

    private static void logLives() {
        CHECK.by("-1000: another lives (the tape stays)");
        OpinionFerry x = Check.made(FOUR);
        Check.feed(x, "raise b;");
        for (int wrong : new int[] {-1, 2, LEAST, GREATEST}) {
            CHECK.due("lives " + wrong, -1000, x.log(wrong));
            CHECK.due("the tape stays", 8, x.count(5));
        }
        CHECK.due("ahead of any", -1, x.logged(0));
        CHECK.due("lives 0", -1, x.log(0));
        CHECK.due("judged", 0, x.now(1));
        CHECK.due("lives 1", -1, Check.log(x, "raise b;", 1));
        CHECK.due("lived", 1, x.now(1));
    }

    private static void logWrong() {
        CHECK.by("the LINE that is WRONG; NONE: none; -2 less the place of a FAULT");
        OpinionFerry x = Check.made(FOUR);
        CHECK.due("none of none", -1, Check.log(x, "", 0));
        CHECK.due("none", -1, Check.log(x, "hire m;hire n;", 0));
        CHECK.due("the first", 0, Check.log(x, "raise a;hire m;", 0));
        CHECK.due("the second", 1, Check.log(x, "hire m;hire m;hire m;", 0));
        CHECK.due("the last of forty", 39, Check.log(x, "raise b;raise a;".repeat(19) + "raise b;raise b;", 0));
        CHECK.due("a FAULT at 0", -2, Check.log(x, "?", 0));
        CHECK.due("a FAULT at the end", -8, Check.log(x, "hire m", 0));
        CHECK.due("a FAULT at 399", -401, Check.log(x, " ".repeat(399) + "?", 0));
        CHECK.due("a FAULT at 400", -402, Check.log(x, " ".repeat(401), 0));
        CHECK.due("a FAULT ahead of what is WRONG", -10, Check.log(x, "raise a;?", 1));
    }

    private static void logLived() {
        CHECK.by("it is judged, all staying as it is (lives 0), or lived as far as it is not WRONG (1)");
        String text = "hire m;m turns b no 9;raise b;o lies b yes 9;cross p;cross o;hire o;";
        OpinionFerry x = Check.made(FOUR);
        CHECK.due("judged", 5, Check.log(x, text, 0));
        for (int what = 0; what < 8; what++) {
            CHECK.due("stays " + what, 0, x.now(what));
        }
        CHECK.due("thinks", 1, x.thinks(0, 1));
        CHECK.due("no lie", 0, x.man(2, 7));
        CHECK.due("nothing to undo", -1, x.undo());
        CHECK.due("lived", 5, Check.log(x, text, 1));
        CHECK.due("boat", 1, x.now(0));
        CHECK.due("raised", 1, x.now(1));
        CHECK.due("coin", 1, x.now(2));
        CHECK.due("over", 8, x.now(4));
        CHECK.due("hired is m, not o", 1, x.now(7));
        CHECK.due("thinks", -9, x.thinks(0, 1));
        CHECK.due("lies", 9, x.says(2, 1));
        CHECK.due("undone at once", 0, x.undo());
        CHECK.due("thinks", 1, x.thinks(0, 1));
        CHECK.due("coin", 0, x.now(2));
    }

    private static void logIs(OpinionFerry x, int why, int lines, int trips, int over) {
        int[] want = {why, lines, trips, over};
        for (int what = 0; what < want.length; what++) {
            CHECK.due("logged " + what, want[what], x.logged(what));
        }
    }

    private static void logged() {
        CHECK.by("Of the latest log() that had no FAULT (and was not -1000): 0 why it was WRONG (0: it was not), 1 LINES that"
                + " are not, 2 trips in it, 3 who are over then, as bits. NONE: another what, or ahead of any");
        OpinionFerry x = Check.made(FOUR);
        logIs(x, -1, -1, -1, -1);
        Check.log(x, "?", 0);
        x.log(2);
        logIs(x, -1, -1, -1, -1);
        x.log(0);
        logIs(x, 0, 0, 0, 0);
        for (int wrong : new int[] {-1, 4, LEAST, GREATEST}) {
            CHECK.due("logged " + wrong, -1, x.logged(wrong));
        }
        Check.log(x, "cross m n;cross n m;cross o p;", 1);
        logIs(x, 0, 3, 3, 12);
        Check.log(x, "cross o;hire o;hire o;cross o;", 0);
        logIs(x, 21, 2, 1, 8);
        CHECK.due("by the LOG, not by what is so", 12, x.now(4));
        Check.log(x, "hire z;", 0);
        Check.log(x, "", 3);
        logIs(x, 21, 2, 1, 8);
        String[] wrongs = {"cross m;", "cross o p m;", "cross o;cross p;", "cross o;cross m n o;", "cross o;cross m;",
            "raise a;", "hire p;hire p;", "o lies a yes 1;", "m lies a yes 3;", "m turns a yes 3;", "p turns a no 0;"};
        int[] whys = {1, 1, 1, 2, 3, 11, 21, 31, 32, 41, 41};
        for (int i = 0; i < wrongs.length; i++) {
            Check.log(x, wrongs[i], 0);
            CHECK.due("why " + wrongs[i], whys[i], x.logged(0));
        }
        OpinionFerry y = Check.made("ask a;ask b;man m 1 a yes 5 b yes 5;man n 1 a no 5 b yes 5;man o 1;");
        Check.log(y, "cross m n;", 0);
        logIs(y, 4, 0, 0, 0);
    }

    private static void sentence() {
        CHECK.by("The tape is the SENTENCE now: how many ONES; -1 less the place of a FAULT: it stays");
        OpinionFerry x = Check.made(FOUR);
        CHECK.due("a FAULT ahead of any", -1, x.sentence());
        CHECK.due("there is none", -1, x.said(-1));
        CHECK.due("one", 1, Check.sentence(x, "number<2"));
        CHECK.due("two MEN", 2, x.said(-1));
        String[] faults = {"", "?", "over or", "not", "with zz", "yes zz", "number>1 number", "not ".repeat(8) + "over"};
        for (String text : faults) {
            CHECK.due("a FAULT of " + text, true, Check.sentence(x, text) < 0);
            CHECK.due("it stays behind " + text, 2, x.said(-1));
        }
        CHECK.due("another one", 2, Check.sentence(x, "not over"));
        CHECK.due("four MEN", 4, x.said(-1));
        // a SENTENCE that is shorter than the one ahead is itself alone
        CHECK.due("twenty", 20, Check.sentence(x, "over or ".repeat(19) + "over"));
        CHECK.due("one", 1, Check.sentence(x, "number=3"));
        CHECK.due("it alone", 3, x.said(0));
        CHECK.due("twenty, the last of which decides", 20, Check.sentence(x, "over or ".repeat(19) + "number=2"));
        CHECK.due("it is said of o", 2, x.said(0));
        CHECK.due("twenty, the last of which decides", 20, Check.sentence(x, "not over and ".repeat(9) + "not yes b"));
        CHECK.due("of n and p", 2, x.said(-1));
        CHECK.due("of n", 1, x.said(0));
        CHECK.due("it alone again", 1, Check.sentence(x, "number=3"));
        CHECK.due("how many", 1, x.said(-1));
    }

    private static void said() {
        CHECK.by("MEN of whom it may be said: how many (k NONE), or the k-th. NONE: there is no SENTENCE, none such");
        OpinionFerry x = Check.made(FOUR);
        CHECK.due("no SENTENCE", -1, x.said(-1));
        CHECK.due("no SENTENCE", -1, x.said(0));
        Check.sentence(x, "over");
        CHECK.due("of nobody", 0, x.said(-1));
        CHECK.due("none", -1, x.said(0));
        Check.sentence(x, "number > 1 or number < 1");
        CHECK.due("three", 3, x.said(-1));
        CHECK.due("first", 0, x.said(0));
        CHECK.due("second", 2, x.said(1));
        CHECK.due("third", 3, x.said(2));
        for (int wrong : new int[] {3, -2, LEAST, GREATEST}) {
            CHECK.due("said " + wrong, -1, x.said(wrong));
        }
        OpinionFerry y = Check.made(ten("", ""));
        Check.sentence(y, "not over");
        CHECK.due("all ten", 10, y.said(-1));
        CHECK.due("the last", 9, y.said(9));
        CHECK.due("none behind", -1, y.said(10));
        OpinionFerry z = Check.made(NO_MEN);
        Check.sentence(z, "not over");
        CHECK.due("no MEN", 0, z.said(-1));
    }

    private static void of(OpinionFerry x, String text, int men) {
        Check.sentence(x, text);
        int got = 0;
        for (int k = 0; k < x.said(-1); k++) {
            got |= 1 << x.said(k);
        }
        CHECK.due("of whom: " + text, men, got);
    }

    private static void saidOf() {
        CHECK.by("'over' | 'wet' | 'hired' | 'with' MAN | ( 'yes' | 'no' ) ASK | how firmly, wage, trips, number SIGN NUMBER");
        OpinionFerry x = Check.made("ask a;ask b;man m 0 a yes 1 b yes 9;man n 20 a no 1 b no 9;man o 10 b yes 1;man p 9;child p m;");
        of(x, "yes a", 9);
        of(x, "no a", 2);
        of(x, "not yes a and not no a", 4);
        of(x, "firm=1", 11);
        of(x, "firm<1", 4);
        of(x, "firm>0", 11);
        of(x, "firm=0", 4);
        of(x, "wage>20", 0);
        of(x, "wage=20", 2);
        of(x, "wage<20", 13);
        of(x, "wage>19", 2);
        of(x, "wage=0", 1);
        of(x, "wage<0", 0);
        of(x, "wage<1", 1);
        of(x, "number=3", 8);
        of(x, "number>3", 0);
        of(x, "number<3", 7);
        of(x, "number<99", 15);
        of(x, "with m", 15);
        of(x, "over or wet or hired", 0);
        x.raise(1);
        of(x, "firm>8", 11);
        of(x, "firm>9", 0);
        of(x, "firm<9", 4);
        x.cross(3);
        of(x, "over", 3);
        of(x, "with m", 3);
        of(x, "with p", 12);
        of(x, "trips=1", 3);
        of(x, "trips<1", 12);
        of(x, "trips>1", 0);
        of(x, "firm=9", 3);
        x.hire(3);
        of(x, "hired", 8);
        x.turn(0, 0, 0);
        of(x, "wet", 3);
        of(x, "not wet", 12);
        // 'and' holds closer than 'or', 'not' closer than both
        of(x, "hired or over and yes b", 9);
        of(x, "over and yes b or hired", 9);
        of(x, "(hired or over) and yes b", 1);
        of(x, "not over and hired or wet", 11);
        of(x, "not (over and hired or wet)", 12);
        OpinionFerry y = Check.made("man m 1;");
        of(y, "firm=0", 1);
        of(y, "firm>0", 0);
    }

    private static void image() {
        CHECK.by("FERRY, all that is so and the SENTENCE are kept in place k (0, 1): true; false: no such one");
        OpinionFerry x = Check.made(FOUR);
        for (int wrong : new int[] {-1, 2, 32, 33, LEAST, GREATEST}) {
            CHECK.due("image " + wrong, false, x.image(wrong));
        }
        CHECK.due("nothing is kept", false, x.restore(0) || x.restore(1));
        CHECK.due("place 0", true, x.image(0));
        x.cross(8);
        CHECK.due("place 1", true, x.image(1));
        CHECK.due("back to 0", true, x.restore(0));
        CHECK.due("over", 0, x.now(4));
        CHECK.due("back to 1", true, x.restore(1));
        CHECK.due("over", 8, x.now(4));
        x.cross(8);
        CHECK.due("place 1 anew", true, x.image(1));
        x.cross(4);
        CHECK.due("back to 1", true, x.restore(1));
        CHECK.due("trips", 2, x.now(3));
        CHECK.due("as often as one likes", true, x.restore(1) && x.restore(1) && x.restore(0));
        CHECK.due("trips", 0, x.now(3));
    }

    private static void restore() {
        CHECK.by("They are as kept in place k: true; false: no such one, or nothing is kept there");
        OpinionFerry x = Check.made("seats 1;slack 9;ask a;ask b;man m 7 a yes 3;man n 1;man o 2;kin m n;child o m;");
        x.cross(1);
        x.turn(0, 1, 4);
        x.cross(1);
        x.raise(1);
        x.lie(1, 0, 8);
        x.hire(0);
        Check.sentence(x, "with m and number < 2");
        CHECK.due("nothing there", false, x.restore(0));
        CHECK.due("nothing there", false, x.restore(1));
        x.image(1);
        CHECK.due("nothing there yet", false, x.restore(0));
        for (int wrong : new int[] {-1, 2, 33, -31, LEAST, GREATEST}) {
            CHECK.due("restore " + wrong, false, x.restore(wrong));
        }
        CHECK.due("what was refused left what can be undone", 5, x.undo());
        CHECK.due("another FERRY", 3, Check.ferry(x, "ask zz;man yy 1;man xx 1 zz yes 9;"));
        x.lie(0, 0, 1);
        Check.sentence(x, "over");
        CHECK.due("back", true, x.restore(1));
        int[] counts = {2, 3, 1, 9, 1, 0};
        int[] nows = {0, 1, 7, 2, 0, 1, 0, 1};
        for (int what = 0; what < nows.length; what++) {
            CHECK.due("now " + what, nows[what], x.now(what));
        }
        for (int what = 0; what < counts.length; what++) {
            CHECK.due("count " + what, counts[what], x.count(what));
        }
        int[][] men = {{0, 7, 1, 1, -1, 2, 2, 0}, {0, 1, 0, 0, -1, 0, 1, 1}, {0, 2, 0, 0, 0, 0, 0, 0}};
        for (int m = 0; m < 3; m++) {
            for (int what = 0; what < 8; what++) {
                CHECK.due("man " + m + " " + what, men[m][what], x.man(m, what));
            }
        }
        CHECK.due("thinks", 4, x.thinks(0, 1));
        CHECK.due("says", 8, x.says(1, 0));
        CHECK.due("child", 4, x.says(2, 1));
        CHECK.due("the SENTENCE", 2, x.said(-1));
        CHECK.due("the old NAMES", -1, Check.log(x, "raise a;hire o;", 0));
        CHECK.due("the new ones are not told", -7, Check.log(x, "hire xx;", 0));
    }

    private static void restoreLeaves() {
        CHECK.by("(the tape, and what other calls told last, stays; nothing can be undone)");
        OpinionFerry x = Check.made(FOUR);
        x.image(0);
        Check.fits(x, 0, 3);
        x.couples();
        Check.log(x, "cross o;cross m;", 0);
        Check.ferry(x, "seats 0;");
        Check.feed(x, "ask q;man z 1;");
        x.hire(0);
        x.hire(1);
        x.restore(0);
        CHECK.due("nothing can be undone", -1, x.undo());
        CHECK.due("fit", 3, x.fit(0));
        CHECK.due("couple", 1, x.couple(0));
        logIs(x, 1, 1, 1, 4);
        CHECK.due("fault", 2, x.fault());
        CHECK.due("the tape", 14, x.count(5));
        CHECK.due("is a FERRY yet", 2, x.ferry());
        x.restore(0);
        x.hire(0);
        CHECK.due("what is done then can be", 0, x.undo());
        OpinionFerry y = new OpinionFerry();
        y.image(1);
        y.restore(1);
        CHECK.due("ahead of any stays ahead of any", -101, y.fit(0));
        CHECK.due("no SENTENCE stays none", -1, y.said(-1));
    }

    private static void count() {
        CHECK.by("0 ASKS, 1 MEN, 2 seats, 3 slack, 4 pairs of kin, 5 bytes of the tape. NONE for another what");
        OpinionFerry x = Check.made("seats 8;slack 9;ask a;ask b;man m 1;man n 1;man o 1;kin m n;");
        x.feed(0, 0, 0, 0, 0);
        int[] counts = {2, 3, 8, 9, 1, 20};
        for (int what = 0; what < counts.length; what++) {
            CHECK.due("count " + what, counts[what], x.count(what));
        }
        for (int wrong : new int[] {-1, 6, LEAST, GREATEST}) {
            CHECK.due("count " + wrong, -1, x.count(wrong));
        }
        OpinionFerry y = Check.made(ten("ask a;ask b;ask c;ask d;ask e;ask f;ask g;ask h;ask i;", ""));
        CHECK.due("most ASKS", 9, y.count(0));
        CHECK.due("most MEN", 10, y.count(1));
        for (int i = 0; i < 48; i++) {
            y.feed(0, 0, 0, 0, 0);
        }
        CHECK.due("most bytes", 940, y.count(5));
    }
}
