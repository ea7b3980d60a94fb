/** "Terms" up to the FAULTS: each sentence that names a bound has a test of its own here. */
public final class TextBoundsTest {
    private static final Check CHECK = new Check();
    private static final String TWO = "man m 1;man n 1;";
    private static final String FOLK = "slack 9;ask a;ask b;man m 1 a yes 3;man n 4 a no 3;man o 20;";
    private static final String KEPT = "seats slack ask man yes no child kin cross raise hire lies turns or and not"
            + " over wet hired with firm wage trips number";

    public static void main(String[] args) {
        blanks();
        words();
        numbers();
        signs();
        goesOn();
        ferryBytes();
        ferryEmpty();
        seats();
        slack();
        wages();
        opinions();
        children();
        kin();
        names();
        nineAsks();
        tenMen();
        logBytes();
        logLines();
        logCrossings();
        logFirm();
        sentenceBytes();
        sentenceEmpty();
        sentenceOnes();
        sentenceWithin();
        sentenceNumbers();
        firstAlongTheText();
        ofOneTokenTheLeast();
        theEnd();
        theMostBytes();
        secondTellings();
        cutShort();
        leftOver();
        CHECK.finish();
    }

    private static void ferry(String text, int lines) {
        OpinionFerry x = new OpinionFerry();
        CHECK.due("ferry of " + text, lines, Check.ferry(x, text));
        CHECK.due("fault of " + text, 0, x.fault());
    }

    private static void ferryFault(String text, int place, int kind) {
        OpinionFerry x = new OpinionFerry();
        CHECK.due("ferry of " + text, -1 - place, Check.ferry(x, text));
        CHECK.due("fault of " + text, kind, x.fault());
        CHECK.due("the empty FERRY stays behind " + text, 0, x.count(0) + x.count(1) + x.count(4));
    }

    private static void log(String text, int answer) {
        OpinionFerry x = Check.made(FOLK);
        CHECK.due("log of " + text, answer, Check.log(x, text, 0));
        CHECK.due("fault of " + text, 0, x.fault());
    }

    private static void logFault(String text, int place, int kind) {
        OpinionFerry x = Check.made(FOLK);
        CHECK.due("log of " + text, -2 - place, Check.log(x, text, 1));
        CHECK.due("fault of " + text, kind, x.fault());
        CHECK.due("nothing is lived of " + text, -1, x.undo());
    }

    private static void sentence(String text, int ones) {
        OpinionFerry x = Check.made(FOLK);
        CHECK.due("sentence of " + text, ones, Check.sentence(x, text));
        CHECK.due("fault of " + text, 0, x.fault());
    }

    private static void sentenceFault(String text, int place, int kind) {
        OpinionFerry x = Check.made(FOLK);
        CHECK.due("sentence of " + text, -1 - place, Check.sentence(x, text));
        CHECK.due("fault of " + text, kind, x.fault());
        CHECK.due("no SENTENCE behind " + text, -1, x.said(-1));
    }

    private static void blanks() {
        CHECK.by("TOKENS of all texts, with blanks (32, 10) between them or not");
        ferry("ask a;ask b;", 2);
        ferry("  ask \n\n a  ;\nask\nb\n;\n ", 2);
        ferry("seats\n1;", 1);
        for (char c : new char[] {0, 9, 11, 12, 13, 31, 127, 160, 255}) {
            ferryFault("ask" + c + "a;", 3, 1);
            ferryFault(c + "ask a;", 0, 1);
            ferryFault("ask a;" + c, 6, 1);
        }
        log("raise b;hire m;", -1);
        log("\n raise \n b\n;\nhire\nm ; \n", -1);
        sentence("number<1 and not(over)", 4);
        sentence("\nnumber\n<\n1 and\nnot (\nover\n)\n", 4);
        ferryFault("aska;", 0, 1);
        ferryFault("man m1;", 4, 1);
    }

    private static void words() {
        CHECK.by("WORDS: small letters, 1 to 7");
        ferry("ask a;ask z;ask azazaza;", 3);
        ferry("ask abcdefg;ask abcdefh;ask bbcdefg;", 3);
        ferryFault("ask abcdefgh;", 4, 1);
        ferryFault("ask zzzzzzzz;", 4, 1);
        ferryFault("seatsss 1;", 0, 1);
        ferryFault("ask A;", 4, 1);
        ferryFault("ask Z;", 4, 1);
        // the bytes next to 'a' and 'z'
        ferryFault("ask `;", 4, 1);
        ferryFault("ask {;", 4, 1);
        ferryFault("ask a`;", 5, 1);
        ferryFault("ask a{;", 5, 1);
        ferryFault("ask " + (char) ('a' + 128) + ";", 4, 1);
        // no two WORDS are one, however their letters add up
        ferry("ask a;ask aa;ask az;ask b;ask ba;ask za;ask z;", 7);
    }

    private static void numbers() {
        CHECK.by("NUMBERS: 1 to 2 digits");
        ferry("seats 5;", 1);
        ferry("seats 05;slack 00;man m 00;man n 09;", 4);
        ferryFault("seats 005;", 6, 1);
        ferryFault("slack 000;", 6, 1);
        ferryFault("man m 020;", 6, 1);
        ferryFault("seats 99999999999999999999;", 6, 1);
        // the bytes next to '0' and '9'
        ferryFault("seats /;", 6, 1);
        ferryFault("seats :;", 6, 1);
        ferryFault("seats 1/;", 7, 1);
        ferryFault("seats 1:;", 7, 1);
        ferryFault("seats -1;", 6, 1);
        ferryFault("seats +1;", 6, 1);
    }

    private static void signs() {
        CHECK.by("; < = > ( ) .");
        sentence("(wage<1)or(wage=1)or(wage>1)", 6);
        for (char c = 33; c < 256; c++) {
            boolean letterOrDigit = c >= 'a' && c <= 'z' || c >= '0' && c <= '9';
            if (!letterOrDigit) {
                ferryFault("ask a" + c + (c == ';' ? ";" : ""), c == ';' ? 6 : 5, 1);
            }
            if (!letterOrDigit && c != '<' && c != '=' && c != '>') {
                sentenceFault("wage " + c + " 1", 5, 1);
            }
        }
    }

    private static void goesOn() {
        CHECK.by("A WORD, NUMBER goes on as long as small letters and digits do; what is not as told is no TOKEN");
        ferryFault("ask a1;", 4, 1);
        ferryFault("ask 1a;", 4, 1);
        ferryFault("ask a1b;", 4, 1);
        ferryFault("ask1 a;", 0, 1);
        ferryFault("ask abcdefg1;", 4, 1);
        ferryFault("seats 1a;", 6, 1);
        ferryFault("seats 12a;", 6, 1);
        ferryFault("ask a;man m 1a yes 1;", 12, 1);
        sentenceFault("wage>1and over", 5, 1);
        sentenceFault("wage>1or over", 5, 1);
        logFault("m lies a yes3;", 9, 1);
    }

    private static void ferryBytes() {
        CHECK.by("A FERRY is a text of at most 900 bytes");
        ferry("ask a;" + " ".repeat(893), 1);
        ferry("ask a;" + " ".repeat(894), 1);
        ferry(" ".repeat(894) + "ask a;", 1);
        ferry(" ".repeat(900), 0);
        ferryFault("ask a;" + " ".repeat(895), 900, 1);
        ferryFault(" ".repeat(895) + "ask a;", 900, 1);
        ferryFault(" ".repeat(901), 900, 1);
        ferryFault(" ".repeat(940), 900, 1);
    }

    private static void ferryEmpty() {
        CHECK.by("A FERRY: { LINE ; }");
        ferry("", 0);
        ferry(" ", 0);
        ferry("seats 1;", 1);
        ferryFault(";", 0, 1);
        ferryFault("seats 1;;", 8, 1);
        ferryFault("seats 1", 7, 1);
        ferryFault("seats 1 slack 1;", 8, 1);
        // as many LINES as there is room for
        StringBuilder all = new StringBuilder("seats 1;slack 1;");
        StringBuilder men = new StringBuilder();
        for (char c = 'a'; c < 'k'; c++) {
            all.append(c < 'j' ? "ask q" + c + ";" : "");
            men.append("man ").append(c).append(" 1;");
        }
        all.append(men);
        int lines = 21;
        for (char c = 'a'; c < 'k'; c++) {
            all.append("child ").append(c).append(c == 'a' ? " b;" : " a;");
            lines++;
            for (char d = 'a'; d < c; d++) {
                all.append("kin ").append(c).append(' ').append(d).append(';');
                lines++;
            }
        }
        ferry(all.toString(), lines);
        OpinionFerry x = Check.made(all.toString());
        CHECK.due("each two are kin", 45, x.count(4));
        CHECK.due("of the last", 511, x.man(9, 6));
    }

    private static void seats() {
        CHECK.by("'seats' N (1 to 8; once; 4 without)");
        for (int n = 1; n <= 8; n++) {
            CHECK.due("seats " + n, n, Check.made("seats " + n + ";").count(2));
        }
        CHECK.due("seats of two digits", 8, Check.made("seats 08;").count(2));
        ferryFault("seats 0;", 6, 2);
        ferryFault("seats 00;", 6, 2);
        ferryFault("seats 9;", 6, 2);
        ferryFault("seats 10;", 6, 2);
        ferryFault("seats 99;", 6, 2);
        ferryFault("seats 1;seats 1;", 8, 3);
        ferryFault("seats 1;ask a;seats 2;", 14, 3);
        CHECK.due("without", 4, Check.made("slack 2;").count(2));
    }

    private static void slack() {
        CHECK.by("'slack' N (0 to 9; once; 0 without)");
        for (int n = 0; n <= 9; n++) {
            CHECK.due("slack " + n, n, Check.made("slack " + n + ";").count(3));
        }
        ferryFault("slack 10;", 6, 2);
        ferryFault("slack 99;", 6, 2);
        ferryFault("slack 0;slack 0;", 8, 3);
        ferryFault("slack 1;ask a;slack 2;", 14, 3);
        CHECK.due("without", 0, Check.made("seats 2;").count(3));
    }

    private static void wages() {
        CHECK.by("'man' NAME WAGE (0 to 20)");
        for (int wage = 0; wage <= 20; wage++) {
            CHECK.due("wage " + wage, wage, Check.made("man m " + wage + ";").man(0, 1));
        }
        ferryFault("man m 21;", 6, 2);
        ferryFault("man m 99;", 6, 2);
        ferryFault("man m;", 5, 1);
    }

    private static void opinions() {
        CHECK.by("{ ASK ( 'yes' | 'no' ) FIRM } (each ASK once in it; 1 to 9; of others he thinks nothing)");
        for (int firm = 1; firm <= 9; firm++) {
            OpinionFerry x = Check.made("ask a;ask b;man m 1 a yes " + firm + ";man n 1 b no " + firm + ";");
            CHECK.due("yes " + firm, firm, x.thinks(0, 0));
            CHECK.due("no " + firm, -firm, x.thinks(1, 1));
            CHECK.due("nothing on others", 0, x.thinks(0, 1));
            CHECK.due("nothing on others", 0, x.thinks(1, 0));
        }
        ferryFault("ask a;man m 1 a yes 0;", 20, 2);
        ferryFault("ask a;man m 1 a no 0;", 19, 2);
        ferryFault("ask a;man m 1 a yes 10;", 20, 2);
        ferryFault("ask a;man m 1 a no 99;", 19, 2);
        ferryFault("ask a;man m 1 a yes 1 a yes 1;", 22, 3);
        ferryFault("ask a;man m 1 a yes 1 a no 1;", 22, 3);
        ferryFault("ask a;ask b;man m 1 a yes 1 b yes 1 a yes 1;", 36, 3);
        ferry("ask a;man m 1 a yes 1;man n 1 a yes 1;", 3);
        ferry("ask a;man m 1;", 2);
        ferryFault("ask a;man m 1 a maybe 1;", 16, 1);
        // all nine, the last ASK and the last MAN among them
        StringBuilder text = new StringBuilder();
        StringBuilder nine = new StringBuilder();
        for (char c = 'a'; c < 'j'; c++) {
            text.append("ask ").append(c).append(';');
            nine.append(' ').append(c).append(" no ").append(c - 'a' + 1);
        }
        for (char c = 'k'; c < 't'; c++) {
            text.append("man ").append(c).append(" 1;");
        }
        OpinionFerry x = Check.made(text + "man t 1" + nine + ";");
        for (int a = 0; a < 9; a++) {
            CHECK.due("the tenth on " + a, -1 - a, x.thinks(9, a));
            CHECK.due("the ninth on " + a, 0, x.thinks(8, a));
        }
        ferryFault(text + "man t 1" + nine + " a no 1;", text.length() + 7 + nine.length() + 1, 3);
    }

    private static void children() {
        CHECK.by("'child' MAN MAN (each first one once; unlike)");
        ferry(TWO + "child m n;", 3);
        ferry(TWO + "child m n;child n m;", 4);
        ferry(TWO + "man o 1;child m n;child o n;", 5);
        ferryFault(TWO + "child m n;child m n;", 32, 3);
        ferryFault(TWO + "man o 1;child m n;child m o;", 40, 3);
        ferryFault(TWO + "child m m;", 24, 3);
        ferryFault(TWO + "child m;", 23, 1);
        ferryFault(TWO + "child m n m;", 26, 1);
        ferryFault("man m 1;child m n;man n 1;", 16, 3);
    }

    private static void kin() {
        CHECK.by("'kin' MAN MAN (unlike; each two once, in whatever order)");
        ferry(TWO + "kin m n;", 3);
        ferry(TWO + "man o 1;kin m n;kin o n;kin m o;", 6);
        ferryFault(TWO + "kin m m;", 22, 3);
        ferryFault(TWO + "kin n n;", 22, 3);
        ferryFault(TWO + "kin m n;kin m n;", 30, 3);
        ferryFault(TWO + "kin m n;kin n m;", 30, 3);
        ferryFault(TWO + "kin n m;kin m n;", 30, 3);
        ferry(TWO + "kin m n;child m n;", 4);
    }

    private static void names() {
        CHECK.by("NAME: a WORD, none of those told here, in a LOG or a SENTENCE; told once");
        for (String word : KEPT.split(" ")) {
            ferryFault("ask " + word + ";", 4, 1);
            ferryFault("man " + word + " 1;", 4, 1);
            if (word.length() < 7) {
                ferry("ask " + word + "a;man a" + word + " 1;", 2);
            }
            ferry("ask " + word.substring(1) + ";", 1);
            ferryFault(TWO + "kin " + word + " n;", 20, 1);
            ferryFault(TWO + "kin n " + word + ";", 22, 1);
            ferryFault(TWO + "child " + word + " n;", 22, 1);
            ferryFault(TWO + "child n " + word + ";", 24, 1);
            ferryFault("man m 1 " + word + " yes 1;", 8, 1);
            logFault("raise " + word + ";", 6, 1);
            logFault("hire " + word + ";", 5, 1);
            logFault("cross m " + word + ";", 8, 1);
            logFault("m lies " + word + " yes 1;", 7, 1);
            sentenceFault("with " + word, 5, 1);
            sentenceFault("yes " + word, 4, 1);
        }
        ferryFault("ask a;ask a;", 10, 3);
        ferryFault("man a 1;man a 1;", 12, 3);
        ferryFault("ask a;man a 1;", 10, 3);
        ferryFault("man a 1;ask a;", 12, 3);
        ferryFault("ask abcdefg;ask abcdefg;", 16, 3);
        ferryFault("ask 1;", 4, 1);
        ferryFault("ask ;", 4, 1);
    }

    private static String asks(int n) {
        StringBuilder text = new StringBuilder();
        for (int i = 0; i < n; i++) {
            text.append("ask ").append((char) ('a' + i)).append(';');
        }
        return text.toString();
    }

    private static String men(int n) {
        StringBuilder text = new StringBuilder();
        for (int i = 0; i < n; i++) {
            text.append("man ").append((char) ('m' + i)).append(' ').append(i).append(';');
        }
        return text.toString();
    }

    private static void nineAsks() {
        CHECK.by("9 ASKS at most, numbered from 0");
        ferry(asks(8), 8);
        ferry(asks(9), 9);
        ferryFault(asks(10), 54, 4);
        ferryFault(asks(9) + "ask", 54, 4);
        ferryFault(asks(9) + "man a 1;", 58, 3);
        OpinionFerry x = Check.made(asks(9));
        CHECK.due("the last", 0, x.raise(8));
        CHECK.due("the first", 0, x.raise(0));
        CHECK.due("none behind it", -1, x.raise(9));
        CHECK.due("the first by its name", -1, Check.log(x, "raise i;raise a;", 1));
        CHECK.due("is 0", 0, x.now(1));
    }

    private static void tenMen() {
        CHECK.by("10 MEN at most, numbered from 0");
        ferry(men(9), 9);
        ferry(men(10), 10);
        ferryFault(men(11), 80, 4);
        ferryFault(men(10) + "man", 80, 4);
        ferryFault(men(10) + "ask m;", 84, 3);
        OpinionFerry x = Check.made(men(10));
        CHECK.due("the last", 9, x.man(9, 1));
        CHECK.due("the first", 0, x.man(0, 1));
        CHECK.dueThrow("none behind it", () -> x.man(10, 1));
        ferry(asks(9) + men(10), 19);
    }

    private static void logBytes() {
        CHECK.by("A LOG is a text of at most 400 bytes");
        log("hire m;" + " ".repeat(393), -1);
        log(" ".repeat(393) + "hire m;", -1);
        log(" ".repeat(400), -1);
        logFault("hire m;" + " ".repeat(394), 400, 1);
        logFault(" ".repeat(394) + "hire m;", 400, 1);
        logFault(" ".repeat(401), 400, 1);
        logFault(" ".repeat(940), 400, 1);
    }

    private static void logLines() {
        CHECK.by("{ LINE ; }, 40 at most; 4: a 41st LINE of a LOG (at the LINE's first WORD)");
        String two = "raise b;raise a;";
        OpinionFerry x = Check.made(FOLK);
        CHECK.due("forty", -1, Check.log(x, two.repeat(20), 0));
        CHECK.due("none is WRONG", 40, x.logged(1));
        CHECK.due("thirty-nine", -1, Check.log(x, two.repeat(19) + "raise b;", 0));
        CHECK.due("none is WRONG", 39, x.logged(1));
        log("", -1);
        logFault(two.repeat(20) + "raise b;", 320, 4);
        logFault(two.repeat(20) + "  cross m;", 322, 4);
        logFault(two.repeat(20) + "hire", 320, 4);
        logFault(two.repeat(20) + "m", 320, 4);
        logFault(two.repeat(20) + "m lies z", 320, 4);
    }

    private static void logCrossings() {
        CHECK.by("'cross' MAN { MAN } (each once in it)");
        logFault("cross;", 5, 1);
        logFault("cross", 5, 1);
        log("cross o;", -1);
        log("cross o m n;", -1);
        logFault("cross m m;", 8, 3);
        logFault("cross m n o m;", 12, 3);
        logFault("cross o n m o;", 12, 3);
        log("cross o;cross o;", -1);
        OpinionFerry x = Check.made(men(10));
        CHECK.due("all ten are more than the seats", 0, Check.log(x, "cross m n o p q r s t u v;", 0));
        CHECK.due("by 2", 2, x.logged(0));
        CHECK.due("another one", -26, Check.log(x, "cross m n o p q r s t u vv;", 0));
        CHECK.due("is not told", 3, x.fault());
        CHECK.due("one of them again", -28, Check.log(x, "cross m n o p q r s t u v m;", 0));
        CHECK.due("is told already", 3, x.fault());
    }

    private static void logFirm() {
        CHECK.by("MAN ( 'lies' | 'turns' ) ASK ( 'yes' | 'no' ) FIRM (0 to 9)");
        for (int firm = 0; firm <= 9; firm++) {
            OpinionFerry x = Check.made(FOLK);
            CHECK.due("lies yes " + firm, firm == 0 ? 0 : -1, Check.log(x, "o lies b yes " + firm + ";", 1));
            CHECK.due("says", firm, x.says(2, 1));
            OpinionFerry y = Check.made(FOLK);
            CHECK.due("turns no " + firm, firm == 0 ? 0 : -1, Check.log(y, "o turns b no " + firm + ";", 1));
            CHECK.due("thinks", -firm, y.thinks(2, 1));
        }
        OpinionFerry z = Check.made(FOLK);
        CHECK.due("no 0 is nothing, too", -1, Check.log(z, "m lies a no 0;n lies a yes 0;n turns a no 00;", 1));
        CHECK.due("m says", 0, z.says(0, 0));
        CHECK.due("n thinks", 0, z.thinks(1, 0));
        logFault("o lies b yes 10;", 13, 2);
        logFault("o turns b no 10;", 13, 2);
        logFault("o lies b no 99;", 12, 2);
        logFault("o lies b no 000;", 12, 1);
    }

    private static void sentenceBytes() {
        CHECK.by("A SENTENCE is a text of at most 200 bytes");
        sentence("over" + " ".repeat(196), 1);
        sentence(" ".repeat(196) + "over", 1);
        sentenceFault("over" + " ".repeat(197), 200, 1);
        sentenceFault(" ".repeat(197) + "over;", 200, 1);
        sentenceFault(" ".repeat(197) + "over", 200, 1);
        sentenceFault(" ".repeat(201), 200, 1);
        sentenceFault(" ".repeat(940), 200, 1);
    }

    private static void sentenceEmpty() {
        CHECK.by("A SENTENCE: COND: ALL { 'or' ALL }. ALL: ONE { 'and' ONE }");
        sentenceFault("", 0, 1);
        sentenceFault(" ", 1, 1);
        sentenceFault("()", 1, 1);
        sentenceFault("or", 0, 1);
        sentenceFault("over or", 7, 1);
        sentenceFault("over and", 8, 1);
        sentenceFault("over over", 5, 1);
        sentence("over or over and over", 3);
    }

    private static void sentenceOnes() {
        CHECK.by("20 ONES; 4: a 21st ONE (at its first TOKEN); how many ONES (each not, bracket and other one)");
        String nineteen = "wet or ".repeat(19);
        sentence(nineteen + "over", 20);
        sentence("wet and ".repeat(19) + "over", 20);
        sentence("not wet or ".repeat(9) + "not over", 20);
        sentence("(wet)or ".repeat(9) + "(over)", 20);
        sentenceFault(nineteen + "over or wet", 141, 4);
        sentenceFault(nineteen + "not over", 137, 4);
        sentenceFault(nineteen + "(over)", 134, 4);
        sentenceFault("not wet or ".repeat(10) + "over", 110, 4);
        sentenceFault("(wet)or ".repeat(10) + "over", 80, 4);
        sentenceFault("wet or ".repeat(20) + "not", 140, 4);
        sentenceFault("wet or ".repeat(20) + "(", 140, 4);
        sentenceFault("wet or ".repeat(20) + "firm ;", 140, 4);
        sentenceFault("wet or ".repeat(20) + "with zz", 140, 4);
    }

    private static void sentenceWithin() {
        CHECK.by("8 within one another; 4: a ninth within (at its first TOKEN)");
        sentence("not ".repeat(7) + "wet", 8);
        sentence("(".repeat(7) + "wet" + ")".repeat(7), 8);
        sentence("not(".repeat(3) + "not wet" + ")".repeat(3), 8);
        // side by side is not within
        sentence("(".repeat(7) + "wet or over" + ")".repeat(7) + "and not ((wet))", 13);
        sentenceFault("not ".repeat(8) + "wet", 32, 4);
        sentenceFault("not ".repeat(8) + "not wet", 32, 4);
        sentenceFault("(".repeat(8) + "wet" + ")".repeat(8), 8, 4);
        sentenceFault("(".repeat(9) + "wet" + ")".repeat(9), 8, 4);
        sentenceFault("not(".repeat(4) + "wet" + ")".repeat(4), 16, 4);
        sentenceFault("wet or not " + "(".repeat(7) + "wet", 18, 4);
    }

    private static void sentenceNumbers() {
        CHECK.by("( 'firm' | 'wage' | 'trips' | 'number' ) SIGN NUMBER");
        for (String measure : "firm wage trips number".split(" ")) {
            sentence(measure + "<0", 1);
            sentence(measure + " = 00", 1);
            sentence(measure + ">99", 1);
            sentenceFault(measure + ">100", measure.length() + 1, 1);
            sentenceFault(measure + ">", measure.length() + 1, 1);
            sentenceFault(measure + "1", 0, 1);
            sentenceFault(measure + " 1", measure.length() + 1, 1);
            sentenceFault(measure + "<=1", measure.length() + 1, 1);
        }
    }

    private static void firstAlongTheText() {
        CHECK.by("FAULTS, the first along the text");
        ferryFault("seats 0;ask A;", 6, 2);
        ferryFault("ask a;ask a;seats 9;?", 10, 3);
        ferryFault(asks(9) + "ask ?;seats 0;", 54, 4);
        ferryFault("ask a;man m 21 z yes 0;", 12, 2);
        ferryFault("ask a;man m 1 z yes 0;", 14, 3);
        ferryFault("ask a;man m 1 a perhaps 0;", 16, 1);
        logFault("hire z;m lies a yes 10;", 5, 3);
        logFault("m lies a yes 10;hire z;", 13, 2);
        sentenceFault("with z or yes m", 5, 3);
        sentenceFault("yes m or ?", 4, 3);
    }

    private static void ofOneTokenTheLeast() {
        CHECK.by("FAULTS, of one TOKEN the least");
        String forty = "hire m;".repeat(40);
        logFault(forty + ";", 280, 1);
        logFault(forty + "9", 280, 1);
        logFault(forty + "wet", 280, 1);
        logFault(forty + "?", 280, 1);
        logFault(forty + "abcdefgh", 280, 1);
        logFault(forty + "zz lies a yes 1;", 280, 3);
        logFault(forty + "a lies a yes 1;", 280, 3);
        logFault(forty + "m lies a yes 1;", 280, 4);
        String twenty = "wet or ".repeat(20);
        sentenceFault(twenty + "m", 140, 1);
        sentenceFault(twenty + "and", 140, 1);
        sentenceFault(twenty + ")", 140, 1);
        sentenceFault(twenty + "?", 140, 1);
        sentenceFault(twenty, 140, 1);
        sentenceFault("not ".repeat(8) + "m", 32, 1);
        sentenceFault("not ".repeat(8) + ")", 32, 1);
        sentenceFault("not ".repeat(8), 32, 1);
        // a number of three digits is no TOKEN ahead of being no such NUMBER
        ferryFault("seats 100;", 6, 1);
        logFault("m lies a yes 100;", 13, 1);
        // a word that is kept is none that can come, ahead of being no NAME
        ferryFault(TWO + "kin m over;", 22, 1);
        logFault("hire over;", 5, 1);
        sentenceFault("with over", 5, 1);
    }

    private static void theEnd() {
        CHECK.by("1 no TOKEN, or one that can't come (at it; the end: how many bytes there are)");
        ferryFault("ask", 3, 1);
        ferryFault("ask a", 5, 1);
        ferryFault("ask a   ", 8, 1);
        ferryFault("ask a\n", 6, 1);
        ferryFault("ask" + " ".repeat(897), 900, 1);
        logFault("hire m", 6, 1);
        logFault("hire m  ", 8, 1);
        logFault("m lies", 6, 1);
        logFault("hire" + " ".repeat(396), 400, 1);
        sentenceFault("not", 3, 1);
        sentenceFault("(over  ", 7, 1);
        sentenceFault("firm", 4, 1);
        sentenceFault("not" + " ".repeat(197), 200, 1);
        // the bytes that end() cut off are not there
        OpinionFerry x = new OpinionFerry();
        Check.feed(x, "ask a;");
        x.end(5);
        CHECK.due("cut off", -6, x.ferry());
        OpinionFerry y = new OpinionFerry();
        Check.feed(y, "ask ab;");
        y.end(5);
        Check.feed(y, ";");
        CHECK.due("a NAME cut off", 1, y.ferry());
    }

    private static void theMostBytes() {
        CHECK.by("the most bytes told, if there are more and no FAULT is ahead: TOKENS that begin ahead of it are read whole");
        ferryFault("ask a;?" + " ".repeat(930), 6, 1);
        ferryFault("ask a;" + " ".repeat(893) + "?;", 899, 1);
        ferryFault("ask a;" + " ".repeat(894) + "?;", 900, 1);
        // "abcdefg" begins at 899 and is read whole; "abcdefgh" is no TOKEN
        ferryFault("ask" + " ".repeat(896) + "abcdefg;", 900, 1);
        ferryFault("ask" + " ".repeat(896) + "abcdefgh", 899, 1);
        ferryFault("ask" + " ".repeat(897) + "abcdefgh", 900, 1);
        ferryFault("ask" + " ".repeat(896) + "wet;", 899, 1);
        ferryFault("ask" + " ".repeat(896) + "we;", 900, 1);
        ferryFault("slack" + " ".repeat(894) + "10;", 899, 2);
        ferryFault("slack" + " ".repeat(894) + "100;", 899, 1);
        ferryFault("slack" + " ".repeat(895) + "10;", 900, 1);
        ferryFault("ask ab;ask" + " ".repeat(889) + "ab;", 899, 3);
        ferryFault("ask ab;ask" + " ".repeat(890) + "ab;", 900, 1);
        ferryFault(asks(9) + " ".repeat(845) + "ask b;", 899, 4);
        ferryFault(asks(9) + " ".repeat(846) + "ask b;", 900, 1);
        logFault("hire" + " ".repeat(395) + "mm;", 399, 3);
        logFault("hire" + " ".repeat(395) + "m ;", 400, 1);
        logFault("hire" + " ".repeat(396) + "mm;", 400, 1);
        sentenceFault("with" + " ".repeat(195) + "mm", 199, 3);
        sentenceFault("with" + " ".repeat(195) + "m ", 200, 1);
        sentenceFault("with" + " ".repeat(196) + "mm", 200, 1);
        sentenceFault("wet or ".repeat(20) + " ".repeat(59) + "wet", 199, 4);
        sentenceFault("wet or ".repeat(20) + " ".repeat(60) + "wet", 200, 1);
    }

    private static void secondTellings() {
        CHECK.by("3 a NAME told twice, not told, or of another sort (at it); told again (at it, at the second of two,"
                + " at the WORD), two alike (at the second)");
        ferryFault("man  m 1;ask  m;", 14, 3);
        ferryFault(TWO + "child  x m;", 23, 3);
        ferryFault(TWO + "child m  x;", 25, 3);
        ferryFault("ask a;" + TWO + "child a m;", 28, 3);
        ferryFault("ask a;" + TWO + "kin m a;", 28, 3);
        ferryFault("man m 1;man n 1 m yes 1;", 16, 3);
        ferryFault(" seats 1; seats 0;", 10, 3);
        ferryFault(TWO + "child  m n;child  m m;", 34, 3);
        ferryFault(TWO + "kin m  m;", 23, 3);
        ferryFault(TWO + "kin m n;kin n  m;", 31, 3);
        logFault("raise  m;", 7, 3);
        logFault("hire  a;", 6, 3);
        logFault("m turns m yes 1;", 8, 3);
        logFault("b turns a yes 1;", 0, 3);
        sentenceFault("with  b", 6, 3);
        sentenceFault("yes  m", 5, 3);
        sentenceFault("no  x", 4, 3);
    }

    /** Each text of TOKENS one by one, ended by ; and by nothing behind each of them but the last. */
    private static void cutShort() {
        CHECK.by("1 one that can't come (at it; the end: how many bytes there are)");
        String ahead = "ask a;" + TWO;
        for (String line : new String[] {"seats 1", "slack 1", "ask b", "man o 1", "child m n", "kin m n"}) {
            for (int cut = line.lastIndexOf(' '); cut >= 0; cut = line.lastIndexOf(' ', cut - 1)) {
                ferryFault(ahead + line.substring(0, cut) + ";", 22 + cut, 1);
                ferryFault(ahead + line.substring(0, cut), 22 + cut, 1);
            }
            ferryFault(ahead + line, 22 + line.length(), 1);
            ferryFault(ahead + line + " ?", 23 + line.length(), 1);
            ferryFault(ahead + line + " seats 1;", 23 + line.length(), 1);
            ferry(ahead + line + ";", 4);
        }
        for (String more : new String[] {" a", " a yes"}) {
            ferryFault("ask a;man m 1" + more + ";", 13 + more.length(), 1);
            ferryFault("ask a;man m 1" + more, 13 + more.length(), 1);
        }
        for (String line : new String[] {"cross m", "raise a", "hire m", "m lies a yes 1", "m turns a no 1"}) {
            for (int cut = line.lastIndexOf(' '); cut >= 0; cut = line.lastIndexOf(' ', cut - 1)) {
                logFault("hire n;" + line.substring(0, cut) + ";", 7 + cut, 1);
                logFault("hire n;" + line.substring(0, cut), 7 + cut, 1);
            }
            logFault("hire n;" + line, 7 + line.length(), 1);
            logFault("hire n;" + line + " 1;", 8 + line.length(), 1);
            logFault("hire n;" + line + " raise b;", 8 + line.length(), 1);
        }
        for (String one : new String[] {"not over", "( over )", "with m", "yes a", "no a", "firm < 1", "number = 1"}) {
            for (int cut = one.lastIndexOf(' '); cut >= 0; cut = one.lastIndexOf(' ', cut - 1)) {
                sentenceFault("over or " + one.substring(0, cut), 8 + cut, 1);
                sentenceFault("over or " + one.substring(0, cut) + ";", 8 + cut, 1);
            }
            sentenceFault("over or " + one + ";", 8 + one.length(), 1);
            sentenceFault("over or " + one + " )", 9 + one.length(), 1);
        }
    }

    /** Bytes that lay on the tape ahead are not read, whatever they are. */
    private static void leftOver() {
        CHECK.by("The tape has its first n bytes alone");
        int[] ends = {4, 5, 6};
        int[] answers = {1, -1, -1};
        for (int i = 0; i < ends.length; i++) {
            OpinionFerry x = Check.made(FOLK);
            x.feed(0x6f766572, 0x6f766572, 0x6f766572, 0x6f766572, 0x6f766572);
            x.end(ends[i]);
            CHECK.due("of overoverover the first " + ends[i], answers[i], x.sentence());
        }
        OpinionFerry y = new OpinionFerry();
        Check.feed(y, "ask a;".repeat(150));
        y.end(0);
        Check.feed(y, "ask a;");
        CHECK.due("the old FERRY is not read", 1, y.ferry());
        OpinionFerry z = new OpinionFerry();
        Check.feed(z, " ".repeat(936) + "asks");
        CHECK.due("a full tape", -901, z.ferry());
        Check.feed(z, "x".repeat(940));
        CHECK.due("a full tape of one WORD", -1, z.ferry());
        Check.feed(z, "9".repeat(940));
        CHECK.due("a full tape of one NUMBER", -2, z.log(0));
        Check.feed(z, "(".repeat(940));
        CHECK.due("a full tape of brackets", -9, z.sentence());
        Check.feed(z, "not ".repeat(235));
        CHECK.due("a full tape of nots", -33, z.sentence());
    }
}
