import java.io.IOException;
import java.lang.reflect.Constructor;
import java.lang.reflect.Field;
import java.lang.reflect.Method;
import java.lang.reflect.Modifier;
import java.nio.file.Files;
import java.nio.file.Path;
import java.util.List;
import java.util.Set;
import java.util.TreeSet;
import java.util.regex.Matcher;
import java.util.regex.Pattern;

/** The face of the class against the document's, and the rules of LANGUAGE.md that its text shows. */
public final class LanguageTest {
    private static final Path SOURCE = Path.of("src/main/java/CairnCipher.java");
    private static final Path DOCUMENT = Path.of("../shared/DOC.md");

    public static void main(String[] args) throws IOException {
        face();
        innerClasses();
        text();
        lines();
        Check.end();
    }

    private static void face() throws IOException {
        Set<String> want = new TreeSet<>();
        Matcher line = Pattern.compile("(?m)^    public ([\\w]+ \\w+\\([^)]*\\))( throws [\\w., ]+)?;$")
                .matcher(Files.readString(DOCUMENT));
        while (line.find()) {
            String types = line.group(1).replaceAll(" \\w+(?=[,)])", "").replace(", ", ",");
            String thrown = line.group(2) == null ? "" : line.group(2).replaceAll("java\\.util\\.", "");
            want.add(types + thrown);
        }
        Set<String> got = new TreeSet<>();
        Set<String> privates = new TreeSet<>();
        for (Method method : CairnCipher.class.getDeclaredMethods()) {
            if (Modifier.isPrivate(method.getModifiers())) {
                privates.add(method.getName());
            } else {
                got.add(written(method));
                Check.due(method.getName() + " is public and not static", method.getModifiers(), Modifier.PUBLIC);
            }
        }
        Check.due("the methods of the document", want.size(), 29);
        Check.due("the face", got, want);
        for (String name : privates) {
            Check.due("a public method has the name " + name, got.toString().contains(" " + name + "("), false);
        }
        Check.due("the class's modifiers", CairnCipher.class.getModifiers(), Modifier.PUBLIC | Modifier.FINAL);
        constructorsAndFields();
    }

    private static String written(Method method) {
        StringBuilder types = new StringBuilder();
        for (Class<?> type : method.getParameterTypes()) {
            types.append(types.length() == 0 ? "" : ",").append(type.getSimpleName());
        }
        StringBuilder thrown = new StringBuilder();
        for (Class<?> type : method.getExceptionTypes()) {
            thrown.append(thrown.length() == 0 ? " throws " : ", ").append(type.getSimpleName());
        }
        return method.getReturnType().getSimpleName() + " " + method.getName() + "(" + types + ")" + thrown;
    }

    private static void constructorsAndFields() {
        Constructor<?>[] constructors = CairnCipher.class.getDeclaredConstructors();
        Check.due("the constructors", constructors.length, 1);
        Check.due("the constructor's arguments", constructors[0].getParameterCount(), 0);
        Check.due("the constructor's modifiers", constructors[0].getModifiers(), Modifier.PUBLIC);
        Set<String> open = new TreeSet<>();
        for (Field field : CairnCipher.class.getDeclaredFields()) {
            if (!Modifier.isPrivate(field.getModifiers())) {
                open.add(field.getName());
            }
        }
        Check.due("the constants", open, new TreeSet<>(List.of("NONE", "ROW", "COLUMN", "HIGH", "NEAR", "SHADE")));
    }

    private static void innerClasses() {
        Class<?>[] classes = CairnCipher.class.getDeclaredClasses();
        Check.due("at most twelve classes", classes.length < 12, true);
        for (Class<?> inner : classes) {
            Check.due(inner + " is private and static",
                    inner.getModifiers() & (Modifier.PRIVATE | Modifier.STATIC), Modifier.PRIVATE | Modifier.STATIC);
            checkFields(inner);
            checkMethods(inner);
        }
        checkFields(CairnCipher.class);
        checkMethods(CairnCipher.class);
    }

    private static void checkMethods(Class<?> any) {
        for (Method method : any.getDeclaredMethods()) {
            Check.due(any + "." + method.getName() + " takes at most seven parameters",
                    method.getParameterCount() <= 7, true);
            Check.due(any + "." + method.getName() + " bears the name of a public one",
                    any != CairnCipher.class && isOfTheFace(method.getName()), false);
        }
    }

    private static boolean isOfTheFace(String name) {
        for (Method method : CairnCipher.class.getDeclaredMethods()) {
            if (Modifier.isPublic(method.getModifiers()) && method.getName().equals(name)) {
                return true;
            }
        }
        return false;
    }

    private static void checkFields(Class<?> any) {
        int fields = 0;
        for (Field field : any.getDeclaredFields()) {
            boolean isStatic = Modifier.isStatic(field.getModifiers());
            fields += isStatic ? 0 : 1;
            Check.due(any + "." + field.getName() + " is final if static",
                    !isStatic || Modifier.isFinal(field.getModifiers()), true);
        }
        Check.due(any + " has at most twenty fields", fields <= 20, true);
    }

    /** The program's text without its comments and written texts. */
    private static String code() throws IOException {
        return Files.readString(SOURCE)
                .replaceAll("(?s)/\\*.*?\\*/", "")
                .replaceAll("//[^\n]*", "")
                .replaceAll("\"[^\"\n]*\"", "\"\"");
    }

    private static void text() throws IOException {
        String code = code();
        for (char sign : Files.readString(SOURCE).toCharArray()) {
            if (sign > 126) {
                Check.due("a sign of the program", (int) sign, "1 to 126");
            }
        }
        Set<String> imports = new TreeSet<>();
        Matcher line = Pattern.compile("(?m)^import ([\\w.*]+);").matcher(code);
        while (line.find()) {
            imports.add(line.group(1));
        }
        imports.removeAll(Set.of("java.util.ArrayList", "java.util.NoSuchElementException"));
        Check.due("other imports", imports.toString(), "[]");
        String[] ruledOut = {"->", "::", "\\bfinally\\b", "\\bsynchronized\\b", "\\bassert\\b", "\\bcatch\\b",
            "\\btry\\b", "\\bpackage\\b", "\\bequals\\b", "\\bhashCode\\b", "\\btoString\\b", "Exact\\b",
            "\\bSystem\\b", "\\bThread\\b", "\\bObject\\b", "\\bvar\\b", "\\bprotected\\b", "\\bstatic \\{", "\"\""};
        for (String rule : ruledOut) {
            Check.due("the program has " + rule, Pattern.compile(rule).matcher(code).find(), false);
        }
        Matcher thrown = Pattern.compile("throw\\b(?! new (IllegalStateException|IllegalArgumentException"
                + "|IndexOutOfBoundsException|NoSuchElementException)\\(\\);)").matcher(code);
        Check.due("another throw", thrown.find(), false);
    }

    private static void lines() throws IOException {
        for (String line : Files.readString(SOURCE).split("\n")) {
            Check.due("a line is at most 120 signs long: " + line, line.length() <= 120, true);
        }
    }
}
