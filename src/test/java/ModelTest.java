import java.lang.reflect.InvocationTargetException;
import java.lang.reflect.Method;
import java.util.ArrayList;
import java.util.HashMap;
import java.util.List;
import java.util.Map;
import java.util.NoSuchElementException;
import java.util.Random;
import java.util.function.BooleanSupplier;

/** Long runs of calls, drawn from fixed seeds, asked of the class and of the Model alike. */
public final class ModelTest {
    private static final int CALLS = 500;
    private static final String[] CHEAP = {
        "fault 0", "man 2", "thinks 2", "says 2", "now 1", "why 1", "cross 1", "cross 1", "raise 1", "hire 1",
        "lie 3", "turn 3", "undo 0", "sum 1", "changed 1", "fit 1", "couple 1", "doubters 1", "jokes 2", "foes 1",
        "drawn 2", "logged 1", "said 1", "image 1", "restore 1", "count 1", "easy 0"};
    private static final String[] DEAR = {
        "crews 1", "largest 0", "stuck 0", "trips 1", "next 0", "best 0", "couples 0", "odds 3"};
    private static final String[] NAMES = {
        "a", "b", "c", "d", "e", "f", "g", "h", "i", "j", "k", "l", "m", "n", "o", "p", "q", "r", "s", "t", "tax",
        "abcdefg", "aa", "seatss"};
    private static final String[] WORDS = {
        "seats", "slack", "ask", "man", "yes", "no", "child", "kin", "cross", "raise", "hire", "lies", "turns", "or",
        "and", "not", "over", "wet", "hired", "with", "firm", "wage", "trips", "number", "toolongs", "a1", "1a", "0",
        "9", "10", "20", "21", "99", "100", ";", "<", "=", ">", "(", ")", ".", "A", "\u00e9", "\t", ""};

    private final Check check = new Check();
    private final Map<String, Method> ofClass = methods(OpinionFerry.class);
    private final Map<String, Method> ofModel = methods(Model.class);
    private Random random;
    private OpinionFerry x;
    private Model y;
    private int run;

    public static void main(String[] args) {
        int runs = args.length > 0 ? Integer.parseInt(args[0]) : 400;
        ModelTest test = new ModelTest();
        for (int run = 0; run < runs; run++) {
            test.oneRun(run);
        }
        test.check.finish();
    }

    private static Map<String, Method> methods(Class<?> c) {
        Map<String, Method> found = new HashMap<>();
        for (Method m : c.getDeclaredMethods()) {
            m.setAccessible(true);
            found.put(m.getName(), m);
        }
        return found;
    }

    private void oneRun(int number) {
        run = number;
        random = new Random(number);
        x = new OpinionFerry();
        y = new Model();
        int crowd = 1 + random.nextInt(10);
        if (random.nextInt(10) > 0) {
            text(ferryText(crowd), "ferry");
        }
        for (int call = 0; call < CALLS; call++) {
            int what = random.nextInt(200);
            if (what < 2) {
                text(spoilt(ferryText(crowd), 30), "ferry");
            } else if (what < 14) {
                text(spoilt(logText(), 8), "log", random.nextInt(12) == 0 ? 2 : random.nextInt(2));
            } else if (what < 26) {
                text(spoilt(sentenceText(), 8), "sentence");
            } else if (what < 34) {
                text(setsText(), "fits", number(0, 9));
            } else if (what < 40) {
                ask("end", random.nextInt(60) - 5);
            } else if (what < (crowd < 8 ? 60 : 42)) {
                askAnyOf(DEAR);
            } else {
                askAnyOf(CHEAP);
            }
        }
    }

    private void askAnyOf(String[] calls) {
        String[] call = calls[random.nextInt(calls.length)].split(" ");
        Object[] arguments = new Object[Integer.parseInt(call[1])];
        for (int i = 0; i < arguments.length; i++) {
            arguments[i] = argument(call[0], i);
        }
        ask(call[0], arguments);
    }

    private int argument(String call, int place) {
        if (random.nextInt(60) == 0) {
            return random.nextInt();
        }
        boolean set = place == 0 && List.of("why", "cross", "sum", "changed", "doubters", "jokes").contains(call);
        if (set) {
            int men = y.count(1);
            int some = random.nextInt((1 << men) + 1);
            return random.nextBoolean() ? some : some & random.nextInt(1 << men) & (random.nextBoolean() ? y.now(4) : ~y.now(4));
        }
        if ((call.equals("drawn") || call.equals("odds")) && place == (call.equals("odds") ? 2 : 1)) {
            return random.nextInt();
        }
        if (call.equals("drawn") || call.equals("odds") && place == 1) {
            return random.nextInt(3) > 0 ? 1 + random.nextInt(3) : random.nextInt(43);
        }
        if ((call.equals("lie") || call.equals("turn")) && place == 2) {
            return random.nextInt(21) - 10;
        }
        return random.nextInt(4) == 0 ? number(-1, 9) : random.nextInt(5);
    }

    private int number(int least, int most) {
        return least + random.nextInt(random.nextInt(most - least + 1) + 1);
    }

    private void text(String text, String call, Object... arguments) {
        if (random.nextInt(40) > 0) {
            both(() -> x.end(0), () -> y.end(0));
        }
        for (int i = 0; i < text.length(); i += 20) {
            Object[] five = new Object[5];
            for (int j = 0; j < 5; j++) {
                int n = 0;
                for (int k = i + 4 * j; k < i + 4 * j + 4; k++) {
                    n = n << 8 | (k < text.length() ? text.charAt(k) & 255 : 0);
                }
                five[j] = n;
            }
            ask("feed", five);
        }
        ask("end", text.length());
        ask("count", 5);
        ask(call, arguments);
        ask("fault");
    }

    private void both(BooleanSupplier one, BooleanSupplier two) {
        check.due("end in run " + run, two.getAsBoolean(), one.getAsBoolean());
    }

    private void ask(String call, Object... arguments) {
        int want = made(ofModel, y, call, arguments);
        int got = made(ofClass, x, call, arguments);
        if (want != got) {
            StringBuilder told = new StringBuilder("run " + run + ": " + call);
            for (Object argument : arguments) {
                told.append(' ').append(argument);
            }
            check.due(told.toString(), want, got);
        } else {
            check.due(call, want, got);
        }
    }

    private static int made(Map<String, Method> methods, Object on, String call, Object[] arguments) {
        try {
            Object answer = methods.get(call).invoke(on, arguments);
            return answer instanceof Boolean b ? (b ? 1 : 0) : (Integer) answer;
        } catch (InvocationTargetException e) {
            if (e.getCause() instanceof NoSuchElementException) {
                return Check.THROWS;
            }
            throw new IllegalStateException(call, e.getCause());
        } catch (IllegalAccessException e) {
            throw new IllegalStateException(e);
        }
    }

    // texts

    private String any(List<String> names) {
        return names.isEmpty() || random.nextInt(50) == 0 ? NAMES[random.nextInt(NAMES.length)]
                : names.get(random.nextInt(names.size()));
    }

    private String yesOrNo() {
        return random.nextBoolean() ? "yes" : "no";
    }

    private List<String> names(int n) {
        List<String> all = new ArrayList<>(List.of(NAMES));
        List<String> some = new ArrayList<>();
        for (int i = 0; i < n; i++) {
            some.add(all.remove(random.nextInt(all.size())));
        }
        return some;
    }

    private String ferryText(int crowd) {
        int asks = random.nextInt(8) == 0 ? random.nextInt(10) : 1 + random.nextInt(4);
        int men = random.nextInt(8) == 0 ? random.nextInt(crowd + 1) : crowd;
        List<String> all = names(asks + men);
        List<String> questions = all.subList(0, asks);
        List<String> people = all.subList(asks, asks + men);
        int most = random.nextBoolean() ? 9 : 3;
        StringBuilder text = new StringBuilder();
        if (random.nextBoolean()) {
            text.append("seats ").append(1 + random.nextInt(8)).append(';');
        }
        if (random.nextBoolean()) {
            text.append("slack ").append(random.nextInt(6)).append(" ;");
        }
        for (String ask : questions) {
            text.append("ask ").append(ask).append(";");
        }
        for (String man : people) {
            text.append("man ").append(man).append(' ').append(random.nextInt(random.nextBoolean() ? 4 : 21));
            for (String ask : questions) {
                if (random.nextInt(4) > 0) {
                    text.append(' ').append(ask).append(' ').append(yesOrNo());
                    text.append(' ').append(most == 3 || random.nextInt(3) > 0 ? 1 + random.nextInt(most) : 5);
                }
            }
            text.append(";\n");
        }
        if (men >= 2) {
            for (int i = random.nextInt(4); i > 0; i--) {
                List<String> two = new ArrayList<>(people);
                String one = two.remove(random.nextInt(men));
                text.append(random.nextBoolean() ? "child " : "kin ").append(one).append(' ')
                        .append(two.get(random.nextInt(men - 1))).append(';');
            }
        }
        return text.toString();
    }

    private String logText() {
        StringBuilder text = new StringBuilder();
        int lines = random.nextInt(12) == 0 ? 38 + random.nextInt(5) : random.nextInt(6);
        for (int i = 0; i < lines; i++) {
            int sort = random.nextInt(lines > 10 ? 2 : 5);
            if (sort == 0) {
                text.append("raise ").append(any(y.askNames()));
            } else if (sort == 1) {
                text.append("hire ").append(any(y.manNames()));
            } else if (sort < 4) {
                text.append(any(y.manNames())).append(random.nextBoolean() ? " lies " : " turns ");
                text.append(any(y.askNames())).append(' ').append(yesOrNo()).append(' ').append(random.nextInt(10));
            } else {
                text.append("cross");
                int crew = y.crews(random.nextInt(Math.max(1, y.crews(-1))));
                for (int m = 0; m < y.count(1); m++) {
                    if (crew >= 0 && (crew >> m & 1) == 1) {
                        text.append(' ').append(y.manNames().get(m));
                    }
                }
                if (crew < 0 || random.nextInt(8) == 0) {
                    text.append(' ').append(any(y.manNames()));
                }
            }
            text.append(random.nextInt(4) == 0 ? " ;\n" : ";");
        }
        return text.toString();
    }

    private String sentenceText() {
        StringBuilder text = new StringBuilder();
        int[] left = {random.nextInt(3) == 0 ? 25 : 6};
        cond(text, left, random.nextInt(10));
        return text.toString();
    }

    private void cond(StringBuilder text, int[] left, int depth) {
        one(text, left, depth);
        while (left[0] > 0 && random.nextInt(3) > 0) {
            text.append(random.nextBoolean() ? " or " : " and ");
            one(text, left, depth);
        }
    }

    private void one(StringBuilder text, int[] left, int depth) {
        left[0]--;
        int sort = random.nextInt(9);
        if (depth > 0 && sort < 4) {
            if (sort < 2) {
                text.append("not ");
                one(text, left, depth - 1);
            } else {
                text.append("(");
                cond(text, left, depth - 1);
                text.append(")");
            }
            return;
        }
        String[] plain = {"over", "wet", "hired"};
        String[] measures = {"firm", "wage", "trips", "number"};
        switch (random.nextInt(4)) {
            case 0 -> text.append(plain[random.nextInt(3)]);
            case 1 -> text.append("with ").append(any(y.manNames()));
            case 2 -> text.append(yesOrNo()).append(' ').append(any(y.askNames()));
            default -> text.append(measures[random.nextInt(4)]).append(random.nextBoolean() ? " " : "")
                    .append("<=>".charAt(random.nextInt(3))).append(random.nextInt(random.nextBoolean() ? 4 : 12));
        }
    }

    private String setsText() {
        StringBuilder bytes = new StringBuilder();
        int sets = random.nextInt(10) == 0 ? random.nextInt(23) : 1 + random.nextInt(2);
        int men = y.count(1);
        for (int i = 0; i < sets; i++) {
            int set = random.nextInt(1 << men) & (random.nextBoolean() ? -1 : random.nextInt(1 << men) | 1);
            if (random.nextInt(30) == 0) {
                set |= 1 << random.nextInt(16);
            }
            bytes.append((char) (set >> 8)).append((char) (set & 255));
        }
        if (random.nextInt(20) == 0) {
            bytes.append('\0');
        }
        return bytes.toString();
    }

    /** In some of a hundred texts something is put in, taken out, doubled, cut off or made longer. */
    private String spoilt(String text, int ofHundred) {
        if (random.nextInt(100) >= ofHundred * 3) {
            return text;
        }
        String[] parts = text.split("(?<=[ ;])");
        int at = random.nextInt(parts.length);
        switch (random.nextInt(6)) {
            case 0 -> parts[at] = WORDS[random.nextInt(WORDS.length)] + " " + parts[at];
            case 1 -> parts[at] = "";
            case 2 -> parts[at] = parts[at] + parts[at];
            case 3 -> parts[at] = WORDS[random.nextInt(WORDS.length)] + " ";
            case 4 -> parts[at] = parts[at] + " ".repeat(random.nextInt(900));
            default -> {
                return text.substring(0, random.nextInt(text.length() + 1));
            }
        }
        String whole = String.join("", parts);
        return whole.substring(0, Math.min(whole.length(), 940));
    }
}
