import java.lang.reflect.Constructor;
import java.lang.reflect.Field;
import java.lang.reflect.Method;
import java.lang.reflect.Modifier;
import java.util.Arrays;
import java.util.Set;
import java.util.TreeMap;
import java.util.TreeSet;

/** The class has the document's face, and nothing beside it (rules 1 and 11 of LANGUAGE.md). */
public final class FaceTest {
    private static final String[] METHODS = {
        "int add(int,int)", "int ask(int)", "int seal(int,int,int)", "int lift(int,int)",
        "int refer(int,int)", "int reserve(int,int)", "int cancel(int,int)", "int pass(int)",
        "int set(int,int)", "int append(int)", "int clearText()", "int fault()", "int run()",
        "int why(int)", "int undo()", "int now()", "int count(int)", "int fileAt(int)",
        "int file(int,int)", "int sealOf(int,int)", "int trace(int,int)", "int reservation(int,int)",
        "int setting(int)", "float meanAge()", "int stays(int)", "int keeper(int)",
        "int burntIn(int)", "int ifPassed(int,int)",
    };
    private static final Object[][] CONSTANTS = {
        {"NO_SUCH", -1}, {"BAD_VALUE", -2}, {"BAD_TEXT", -3}, {"TOO_MANY", -4},
        {"NOT_POSSIBLE", -5}, {"NONE", -6}, {"PERIOD", 0}, {"LOYAL", 5}, {"SHELF", 6},
    };

    public static void main(String[] args) throws IllegalAccessException {
        Check check = new Check();
        Class<ForgettingArchive> face = ForgettingArchive.class;
        check.holds("the class is public", Modifier.isPublic(face.getModifiers()));
        check.holds("the class is final", Modifier.isFinal(face.getModifiers()));
        checkMethods(check, face);
        checkFields(check, face);
        checkConstructors(check, face);
        checkNested(check, face);
        check.end();
    }

    private static void checkMethods(Check check, Class<?> face) {
        Set<String> open = new TreeSet<>();
        Set<String> openNames = new TreeSet<>();
        for (Method method : face.getDeclaredMethods()) {
            if (!Modifier.isPrivate(method.getModifiers())) {
                check.holds(method + " is public", Modifier.isPublic(method.getModifiers()));
                check.holds(method + " is of objects", !Modifier.isStatic(method.getModifiers()));
                open.add(signature(method));
                openNames.add(method.getName());
            }
        }
        check.holds("the methods are those of the document: " + open,
            open.equals(new TreeSet<>(Arrays.asList(METHODS))));
        for (Method method : face.getDeclaredMethods()) {
            if (Modifier.isPrivate(method.getModifiers())) {
                check.holds(method + " has a name of its own", !openNames.contains(method.getName()));
            }
        }
    }

    private static String signature(Method method) {
        StringBuilder text = new StringBuilder();
        text.append(method.getReturnType().getName()).append(' ').append(method.getName()).append('(');
        for (int i = 0; i < method.getParameterCount(); i++) {
            text.append(i == 0 ? "" : ",").append(method.getParameterTypes()[i].getName());
        }
        return text.append(')').toString();
    }

    private static void checkFields(Check check, Class<?> face) throws IllegalAccessException {
        TreeMap<String, Integer> open = new TreeMap<>();
        for (Field field : face.getDeclaredFields()) {
            int modifiers = field.getModifiers();
            if (!Modifier.isPrivate(modifiers)) {
                check.holds(field + " is a constant", Modifier.isPublic(modifiers)
                    && Modifier.isStatic(modifiers) && Modifier.isFinal(modifiers)
                    && field.getType() == int.class);
                open.put(field.getName(), field.getInt(null));
            }
        }
        check.due("the number of constants", open.size(), CONSTANTS.length);
        for (Object[] constant : CONSTANTS) {
            check.holds(constant[0] + " is " + constant[1], constant[1].equals(open.get(constant[0])));
        }
    }

    private static void checkConstructors(Check check, Class<?> face) {
        Constructor<?>[] all = face.getDeclaredConstructors();
        check.due("the number of constructors", all.length, 1);
        check.holds("the constructor is public", Modifier.isPublic(all[0].getModifiers()));
        check.due("the number of its parameters", all[0].getParameterCount(), 0);
    }

    private static void checkNested(Check check, Class<?> face) {
        Class<?>[] nested = face.getDeclaredClasses();
        check.holds("there are at most 12 classes", nested.length < 12);
        for (Class<?> one : nested) {
            int modifiers = one.getModifiers();
            check.holds(one + " is static", Modifier.isStatic(modifiers));
            check.holds(one + " is hidden", !Modifier.isPublic(modifiers) && !Modifier.isProtected(modifiers));
            check.holds(one + " has at most 20 fields", one.getDeclaredFields().length <= 20);
        }
    }
}
