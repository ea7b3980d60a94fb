import java.io.IOException;
import java.lang.reflect.InvocationTargetException;
import java.lang.reflect.Method;
import java.nio.file.Files;
import java.nio.file.Path;
import java.util.NoSuchElementException;
import java.util.regex.Matcher;
import java.util.regex.Pattern;

/** The example of README.md, run line by line: each call answers what stands behind it. */
public final class ReadmeTest {
    private static final Pattern CALL = Pattern.compile("x\\.(\\w+)\\((.*?)\\); +// (throws \\w+|true|false|-?\\d+).*");
    private static final Pattern TEXT = Pattern.compile("text\\(x, \"(.*)\"\\);");

    public static void main(String[] args) throws IOException, ReflectiveOperationException {
        Check check = new Check();
        OpinionFerry x = null;
        for (String line : Files.readAllLines(Path.of("README.md"))) {
            Matcher text = TEXT.matcher(line);
            Matcher call = CALL.matcher(line);
            if (line.equals("OpinionFerry x = new OpinionFerry();")) {
                x = new OpinionFerry();
            } else if (x != null && line.equals("```")) {
                break;
            } else if (x != null && text.matches()) {
                Check.feed(x, text.group(1));
            } else if (x != null) {
                check.due("a line that can be run: " + line, true, call.matches());
                check.due(line, true, call.group(3).equals(answer(x, call.group(1), call.group(2))));
            }
        }
        check.finish();
    }

    private static String answer(OpinionFerry x, String name, String list) throws ReflectiveOperationException {
        String[] parts = list.isEmpty() ? new String[0] : list.split(", ");
        Object[] arguments = new Object[parts.length];
        Class<?>[] types = new Class<?>[parts.length];
        for (int i = 0; i < parts.length; i++) {
            arguments[i] = Integer.valueOf(parts[i]);
            types[i] = int.class;
        }
        Method method = OpinionFerry.class.getMethod(name, types);
        try {
            return String.valueOf(method.invoke(x, arguments));
        } catch (InvocationTargetException e) {
            if (e.getCause() instanceof NoSuchElementException) {
                return "throws NoSuchElementException";
            }
            throw e;
        }
    }
}
