import java.io.IOException;
import java.lang.reflect.Field;
import java.lang.reflect.Method;
import java.lang.reflect.Modifier;
import java.nio.file.Files;
import java.nio.file.Path;
import java.util.HashSet;
import java.util.Set;
import java.util.regex.Matcher;
import java.util.regex.Pattern;

/** The rules of ../shared/LANGUAGE.md that can be seen from the file's words and its classes. */
public final class LanguageTest {
    private static final String COMMENT = "(?s)/\\*.*?\\*/|//[^\n]*";
    private static final String TEXT = "\"[^\"\n]*\"";
    /** The class needs no library and catches nothing, so that no machine's exception is hidden. */
    private static final String[] NOT_USED = {
        "\\bpackage\\b", "\\bimport\\b", "\\bjava\\.", "->", "::", "\\bcatch\\b", "\\bfinally\\b",
        "\\bsynchronized\\b", "\\bassert\\b", "\\bstatic\\s*\\{", "Exact\\b", "\\binstanceof\\b",
        "\\bdouble\\b", "\\bfloat\\b", "\\bSystem\\b", "\\bMath\\b", "\\bThread\\b", "[/%]"
    };

    private final Check check = new Check();

    public static void main(String[] args) throws IOException {
        LanguageTest test = new LanguageTest();
        String code = Files.readString(Path.of("src/main/java/UnitStates.java"))
                .replaceAll(COMMENT, "");
        test.words(code.replaceAll(TEXT, "\"\""));
        test.throwsOfTheFace(code);
        test.namesOfPrivateMethods();
        test.classOf(UnitStates.class);
        for (Class<?> inside : UnitStates.class.getDeclaredClasses()) {
            if (!Modifier.isStatic(inside.getModifiers()) || Modifier.isPublic(inside.getModifiers())) {
                test.check.complain(inside + " is not static, or public");
            }
            test.classOf(inside);
        }
        test.check.end();
    }

    private void words(String code) {
        for (String word : NOT_USED) {
            Matcher found = Pattern.compile(word).matcher(code);
            if (found.find()) {
                check.complain("the file holds " + found.group());
            }
        }
    }

    /** Rule 6: each throw makes one of the face's exceptions, with nothing but a written text. */
    private void throwsOfTheFace(String code) {
        Matcher thrown = Pattern.compile("\\bthrow\\b[^;]*;").matcher(code);
        while (thrown.find()) {
            if (!thrown.group().matches("throw new (IllegalArgument|IndexOutOfBounds|"
                    + "UnsupportedOperation)Exception\\(" + TEXT + "\\);")) {
                check.complain("the file holds " + thrown.group());
            }
        }
    }

    /** Rule 1: no private method bears the name of a public one. */
    private void namesOfPrivateMethods() {
        Set<String> names = new HashSet<>();
        for (Method method : UnitStates.class.getDeclaredMethods()) {
            if (!names.add(method.getName())) {
                check.complain("two methods are named " + method.getName());
            }
        }
        for (Class<?> inside : UnitStates.class.getDeclaredClasses()) {
            for (Method method : inside.getDeclaredMethods()) {
                if (names.contains(method.getName())) {
                    check.complain(method + " is named like one of the outer class");
                }
            }
        }
    }

    /** Rules 5 and 11: constants are final numbers; some twenty fields, seven parameters at most. */
    private void classOf(Class<?> seen) {
        int fields = 0;
        for (Field field : seen.getDeclaredFields()) {
            if (!Modifier.isStatic(field.getModifiers())) {
                fields++;
            } else if (!Modifier.isFinal(field.getModifiers()) || field.getType() != int.class) {
                check.complain(field + " is static, but no constant number");
            }
        }
        if (fields > 20) {
            check.complain(seen + " has " + fields + " fields");
        }
        for (Method method : seen.getDeclaredMethods()) {
            if (method.getParameterCount() > 7) {
                check.complain(method + " takes more than seven parameters");
            }
        }
    }
}
