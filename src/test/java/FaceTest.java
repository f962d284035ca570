import java.lang.reflect.Constructor;
import java.lang.reflect.Field;
import java.lang.reflect.Method;
import java.lang.reflect.Modifier;
import java.util.Arrays;
import java.util.Set;
import java.util.TreeMap;
import java.util.TreeSet;

/** The face of the class is the document's, and no more. */
public final class FaceTest {
    private static final String[] METHODS = {
        "int set(int, int)", "int thickness(int, int)", "int carbon(int, int)", "int write(int, int, int)", "int strike(int, int)",
        "int paint(int, int)", "int amend(int, int, int, int)", "int tear(int)", "int ofSheet(int, int)", "int reading(int, int, int)",
        "int ofMark(int, int, int, int)", "int together(int, int)", "int count(int)", "int differ(int, int)", "int enoughFor(int)",
        "int strikeFor(int)", "int lasts(int)", "int ifWritten(int, int, int)", "int put(long)", "int wipe()", "int fault()",
        "int carryOut()", "int undo()", "int save(int)", "int restore(int)"};
    private static final String CONSTANTS = "{BAD_TEXT=-3, BAD_VALUE=-2, CLEAR=1, EMPTY=0, FAINT=0, NONE=-6, NOT_POSSIBLE=-5, "
        + "NO_SUCH=-1, OVER=1, TOO_MANY=-4, UNCLEAR=2}";

    private static int wrong = 0;

    public static void main(String[] args) throws IllegalAccessException {
        same("the class", CarbonSheets.class.getModifiers(), Modifier.PUBLIC | Modifier.FINAL);
        methods();
        constants();
        constructors();
        classesInside();
        System.out.println(wrong == 0 ? "the face is as due" : wrong + " things of the face are not as due");
        if (wrong != 0) {
            System.exit(1);
        }
    }

    private static void methods() {
        Set<String> open = new TreeSet<>();
        Set<String> hidden = new TreeSet<>();
        Set<String> names = new TreeSet<>();
        for (Method method : CarbonSheets.class.getDeclaredMethods()) {
            if (Modifier.isPrivate(method.getModifiers())) {
                hidden.add(method.getName());
            } else {
                String types = Arrays.toString(method.getParameterTypes());
                open.add(method.getReturnType() + " " + method.getName() + "(" + types.substring(1, types.length() - 1) + ")");
                names.add(method.getName());
                same(method.getName(), method.getModifiers(), Modifier.PUBLIC);
            }
        }
        same("the methods", open, new TreeSet<>(Arrays.asList(METHODS)));
        hidden.retainAll(names);
        same("private methods that are named as public ones", hidden, new TreeSet<>());
    }

    private static void constants() throws IllegalAccessException {
        TreeMap<String, Object> open = new TreeMap<>();
        for (Field field : CarbonSheets.class.getDeclaredFields()) {
            if (!Modifier.isPrivate(field.getModifiers())) {
                same(field.getName(), field.getModifiers(), Modifier.PUBLIC | Modifier.STATIC | Modifier.FINAL);
                open.put(field.getName(), field.get(null));
            }
        }
        same("the constants", open, CONSTANTS);
    }

    private static void constructors() {
        for (Constructor<?> constructor : CarbonSheets.class.getDeclaredConstructors()) {
            same("a constructor", constructor, "public CarbonSheets()");
        }
    }

    private static void classesInside() {
        for (Class<?> inside : CarbonSheets.class.getDeclaredClasses()) {
            int modifiers = inside.getModifiers();
            same(inside + " is static", Modifier.isStatic(modifiers), true);
            same(inside + " is open", Modifier.isPublic(modifiers) || Modifier.isProtected(modifiers), false);
        }
    }

    private static void same(String what, Object got, Object want) {
        if (!got.toString().equals(want.toString())) {
            wrong++;
            System.out.println(what + ": " + got + ", due is " + want);
        }
    }
}
