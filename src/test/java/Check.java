import java.util.NoSuchElementException;
import java.util.function.IntSupplier;

/** What the tests share: texts onto the tape, and answers against those that are due. */
final class Check {
    static final int THROWS = Integer.MIN_VALUE;

    private int wrong;
    private int asked;
    private String words = "";

    /** The document's words that the answers from here on are held against. */
    void by(String sentence) {
        words = " (by: " + sentence + ")";
    }

    void due(String call, int want, int got) {
        asked++;
        if (got != want) {
            wrong++;
            System.out.println(call + " answered " + got + ", due is " + want + words);
        }
    }

    void due(String call, boolean want, boolean got) {
        due(call, want ? 1 : 0, got ? 1 : 0);
    }

    void dueThrow(String call, IntSupplier made) {
        due(call, THROWS, answer(made));
    }

    /** The answer of a call, THROWS for the one exception that the document knows. */
    static int answer(IntSupplier made) {
        try {
            return made.getAsInt();
        } catch (NoSuchElementException e) {
            return THROWS;
        }
    }

    /** Puts bytes behind the tape: the last twenty are filled up and cut off again. */
    static void feed(OpinionFerry x, String text) {
        int length = x.count(5);
        for (int i = 0; i < text.length(); i += 20) {
            x.feed(four(text, i), four(text, i + 4), four(text, i + 8), four(text, i + 12), four(text, i + 16));
        }
        x.end(Math.min(length + text.length(), x.count(5)));
    }

    private static int four(String text, int from) {
        int number = 0;
        for (int i = from; i < from + 4; i++) {
            number = number << 8 | (i < text.length() ? text.charAt(i) & 255 : 0);
        }
        return number;
    }

    static int ferry(OpinionFerry x, String text) {
        feed(x, text);
        return x.ferry();
    }

    static OpinionFerry made(String text) {
        OpinionFerry x = new OpinionFerry();
        if (ferry(x, text) < 0) {
            throw new IllegalStateException("a test's own text has a FAULT: " + text);
        }
        return x;
    }

    static int log(OpinionFerry x, String text, int lives) {
        feed(x, text);
        return x.log(lives);
    }

    static int sentence(OpinionFerry x, String text) {
        feed(x, text);
        return x.sentence();
    }

    /** Sets as two bytes each. */
    static int fits(OpinionFerry x, int m, int... sets) {
        StringBuilder bytes = new StringBuilder();
        for (int set : sets) {
            bytes.append((char) (set >> 8 & 255)).append((char) (set & 255));
        }
        feed(x, bytes.toString());
        return x.fits(m);
    }

    void finish() {
        System.out.println(asked + " answers, " + wrong + " not as due");
        if (wrong != 0 || asked == 0) {
            System.exit(1);
        }
    }
}
