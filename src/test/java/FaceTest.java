import java.lang.reflect.Constructor;
import java.lang.reflect.Field;
import java.lang.reflect.Member;
import java.lang.reflect.Method;
import java.lang.reflect.Modifier;
import java.util.Set;
import java.util.TreeSet;

/** The face of the document, and nothing beside it. */
public final class FaceTest {
    private static final String[] METHODS = {
        "int feed 5", "boolean end 1", "int ferry 0", "int fault 0", "int man 2", "int thinks 2", "int says 2",
        "int now 1", "int why 1", "int cross 1", "int raise 1", "int hire 1", "int lie 3", "int turn 3",
        "int undo 0", "int sum 1", "int crews 1", "int largest 0", "int stuck 0", "int trips 1", "int next 0",
        "int best 0", "int easy 0", "int changed 1", "int fits 1", "int fit 1", "int couples 0", "int couple 1",
        "int doubters 1", "int jokes 2", "int foes 1", "int drawn 2", "int odds 3", "int log 1", "int logged 1",
        "int sentence 0", "int said 1", "boolean image 1", "boolean restore 1", "int count 1"};

    public static void main(String[] args) {
        Check check = new Check();
        Set<String> want = new TreeSet<>(Set.of(METHODS));
        Set<String> got = new TreeSet<>();
        Set<String> names = new TreeSet<>();
        for (Method m : OpinionFerry.class.getDeclaredMethods()) {
            if (!Modifier.isPrivate(m.getModifiers())) {
                got.add(m.getReturnType() + " " + m.getName() + " " + m.getParameterCount());
                names.add(m.getName());
                check.due(m.getName() + " is public", true, Modifier.isPublic(m.getModifiers()));
                check.due(m.getName() + " belongs to an object", false, Modifier.isStatic(m.getModifiers()));
            }
        }
        check.due("the methods " + got, true, want.equals(got));
        check.due("the class is final", true, Modifier.isFinal(OpinionFerry.class.getModifiers()));
        for (Class<?> c : OpinionFerry.class.getDeclaredClasses()) {
            check.due(c + " is static", true, Modifier.isStatic(c.getModifiers()));
            for (Method m : c.getDeclaredMethods()) {
                check.due(c + " bears " + m.getName(), false, names.contains(m.getName()));
            }
        }
        for (Method m : OpinionFerry.class.getDeclaredMethods()) {
            check.due("private " + m.getName(), false, hidden(m) && names.contains(m.getName()));
        }
        int constants = 0;
        for (Field f : OpinionFerry.class.getDeclaredFields()) {
            check.due("visible " + f.getName(), f.getName().equals("NONE"), !hidden(f));
            constants += f.getName().equals("NONE") ? 1 : 0;
        }
        check.due("NONE is there", 1, constants);
        check.due("NONE", -1, OpinionFerry.NONE);
        Constructor<?>[] made = OpinionFerry.class.getDeclaredConstructors();
        check.due("constructors", 1, made.length);
        check.due("its arguments", 0, made[0].getParameterCount());
        check.due("it is public", true, Modifier.isPublic(made[0].getModifiers()));
        check.finish();
    }

    private static boolean hidden(Member member) {
        return Modifier.isPrivate(member.getModifiers());
    }
}
