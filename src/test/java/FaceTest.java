import java.lang.reflect.Constructor;
import java.lang.reflect.Field;
import java.lang.reflect.Method;
import java.lang.reflect.Modifier;
import java.util.Arrays;
import java.util.Set;
import java.util.TreeSet;

/** The public face is the document's, and the class keeps what LANGUAGE.md says of members. */
public final class FaceTest {
    private static final Set<String> FACE = new TreeSet<>(Arrays.asList(
            "define(int, int, int, boolean) int", "make(int, int) int", "matcher(int, int) int",
            "call(int, int, int, int) long", "when() int", "answer(int, int) int", "told(int) int",
            "check(int, int, int) int", "noMore(int) int", "restart() int", "noted(int, int) int",
            "telling(int, int) int", "found(int) int", "caught(int) int", "count(int) int"));
    private static final Set<String> CONSTANTS = new TreeSet<>(Arrays.asList(
            "REFUSED", "FULL", "UNFINISHED", "MISPLACED", "WRONG",
            "THROWN", "UNTOLD", "PASSED", "BROKEN", "ERROR"));

    public static void main(String[] args) {
        constants();
        members();
        classesInside();
        Due.end();
    }

    private static void holds(boolean so) {
        Due.due(1, so ? 1 : 0);
    }

    private static void constants() {
        Due.due(-1, StandIns.REFUSED);
        Due.due(-2, StandIns.FULL);
        Due.due(-3, StandIns.UNFINISHED);
        Due.due(-4, StandIns.MISPLACED);
        Due.due(-5, StandIns.WRONG);
        Due.due(1099511627776L, StandIns.THROWN);
        Due.due(2199023255552L, StandIns.UNTOLD);
        Due.due(4398046511104L, StandIns.PASSED);
        Due.due(8796093022208L, StandIns.BROKEN);
        Due.due(17592186044416L, StandIns.ERROR);
    }

    private static void members() {
        holds(Modifier.isPublic(StandIns.class.getModifiers()) && Modifier.isFinal(StandIns.class.getModifiers()));
        Set<String> seen = new TreeSet<>();
        for (Method method : StandIns.class.getDeclaredMethods()) {
            if (!Modifier.isPrivate(method.getModifiers())) {
                holds(Modifier.isPublic(method.getModifiers()) && !Modifier.isStatic(method.getModifiers()));
                seen.add(signature(method));
            }
        }
        holds(seen.equals(FACE));
        Set<String> names = new TreeSet<>();
        for (Field field : StandIns.class.getDeclaredFields()) {
            if (!Modifier.isPrivate(field.getModifiers())) {
                names.add(field.getName());
            }
        }
        holds(names.equals(CONSTANTS));
        Constructor<?>[] constructors = StandIns.class.getDeclaredConstructors();
        Due.due(1, constructors.length);
        Due.due(0, constructors[0].getParameterCount());
        holds(Modifier.isPublic(constructors[0].getModifiers()));
    }

    private static String signature(Method method) {
        String types = Arrays.toString(method.getParameterTypes());
        return method.getName() + "(" + types.substring(1, types.length() - 1) + ") " + method.getReturnType();
    }

    private static void classesInside() {
        Class<?>[] inside = StandIns.class.getDeclaredClasses();
        holds(inside.length <= 11);
        ownRules(StandIns.class);
        for (Class<?> one : inside) {
            holds(Modifier.isStatic(one.getModifiers()) && !Modifier.isPublic(one.getModifiers()));
            ownRules(one);
        }
    }

    private static void ownRules(Class<?> one) {
        int fields = 0;
        for (Field field : one.getDeclaredFields()) {
            if (Modifier.isStatic(field.getModifiers())) {
                holds(Modifier.isFinal(field.getModifiers()));
            } else {
                fields++;
            }
        }
        holds(fields <= 20);
        for (Method method : one.getDeclaredMethods()) {
            holds(method.getParameterCount() <= 7);
            if (Modifier.isPrivate(method.getModifiers())) {
                for (String publicOne : FACE) {
                    holds(!publicOne.startsWith(method.getName() + "("));
                }
            }
        }
    }
}
