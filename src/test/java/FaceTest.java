import java.lang.reflect.Constructor;
import java.lang.reflect.Field;
import java.lang.reflect.Method;
import java.lang.reflect.Modifier;
import java.util.Arrays;
import java.util.Set;
import java.util.TreeSet;

/** The public face, to the letter, and nothing beside it. */
public final class FaceTest {
    private static final String IAE = "IllegalArgumentException";
    private static final String IOOBE = "IndexOutOfBoundsException";
    private static final String UOE = "UnsupportedOperationException";

    public static void main(String[] args) {
        Check check = new Check();
        Set<String> due = new TreeSet<>(Arrays.asList(
                "unit 2 " + Arrays.asList(IOOBE, UOE),
                "message 4 " + Arrays.asList(IAE, IOOBE, UOE),
                "at 3 " + Arrays.asList(IAE, IOOBE),
                "place 2 " + Arrays.asList(IAE, IOOBE),
                "age 2 " + Arrays.asList(IAE, IOOBE),
                "expected 2 " + Arrays.asList(IAE, IOOBE),
                "wrong 1 " + Arrays.asList(IAE),
                "told 1 " + Arrays.asList(IAE),
                "many 2 " + Arrays.asList(IAE, IOOBE),
                "arrived 3 " + Arrays.asList(IAE, IOOBE)));
        Set<String> found = new TreeSet<>();
        for (Method method : UnitStates.class.getDeclaredMethods()) {
            if (!Modifier.isPrivate(method.getModifiers())) {
                found.add(described(method, check));
            }
        }
        if (!found.equals(due)) {
            check.complain("the methods are " + found + ", due are " + due);
        }
        checkTheRest(check);
        check.end();
    }

    private static String described(Method method, Check check) {
        if (method.getModifiers() != Modifier.PUBLIC || method.getReturnType() != int.class) {
            check.complain(method + " is not a public int method of an object");
        }
        for (Class<?> type : method.getParameterTypes()) {
            if (type != int.class) {
                check.complain(method + " takes another type than int");
            }
        }
        String[] thrown = Arrays.stream(method.getExceptionTypes())
                .map(Class::getSimpleName).toArray(String[]::new);
        return method.getName() + " " + method.getParameterCount() + " " + Arrays.asList(thrown);
    }

    private static void checkTheRest(Check check) {
        if (UnitStates.class.getModifiers() != (Modifier.PUBLIC | Modifier.FINAL)) {
            check.complain("the class is not public and final");
        }
        Constructor<?>[] constructors = UnitStates.class.getDeclaredConstructors();
        if (constructors.length != 1 || constructors[0].getModifiers() != Modifier.PUBLIC
                || constructors[0].getParameterCount() != 0
                || constructors[0].getExceptionTypes().length != 0) {
            check.complain("the constructor is not the document's");
        }
        for (Field field : UnitStates.class.getDeclaredFields()) {
            int is = field.getModifiers();
            if (!Modifier.isPrivate(is) || Modifier.isStatic(is) && !Modifier.isFinal(is)) {
                check.complain("the field " + field + " is not private, or static and not final");
            }
        }
    }
}
