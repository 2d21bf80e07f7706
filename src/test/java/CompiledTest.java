import java.io.IOException;
import java.util.Map;
import java.util.Set;
import java.util.TreeMap;
import java.util.TreeSet;

/** The rules 4, 8, 11 and 12 of LANGUAGE.md, as the compiled class shows them: its calls, and what it makes. */
public final class CompiledTest {
    private static final int DEEPEST = 8;
    private static final int LONGEST = 60;
    /** Those of rule 4 that the class needs. */
    private static final Set<String> LIBRARY = Set.of("java/util/ArrayList.<init>", "java/util/ArrayList.add",
            "java/util/ArrayList.get", "java/util/ArrayList.size", "java/util/ArrayList.clear",
            "java/lang/Math.abs", "java/lang/Math.min", "java/lang/Math.max", "java/lang/Long.bitCount",
            "java/lang/Object.<init>", "java/lang/IndexOutOfBoundsException.<init>",
            "java/lang/IllegalArgumentException.<init>", "java/lang/IllegalStateException.<init>",
            "java/util/NoSuchElementException.<init>");
    /** A call makes at most what one of these makes: the others use the rows again that the constructor made. */
    private static final Set<String> MAKERS = Set.of("CairnCipher.hint", "CairnCipher.stage",
            "CairnCipher.addWalker", "CairnCipher$Text.copy");

    private final Map<String, ClassFile.Code> methods = new TreeMap<>();
    private final Map<String, Integer> depths = new TreeMap<>();
    private final Set<String> open = new TreeSet<>();

    public static void main(String[] args) throws IOException {
        CompiledTest test = new CompiledTest();
        test.read("CairnCipher");
        for (Class<?> inner : CairnCipher.class.getDeclaredClasses()) {
            test.read(inner.getName());
        }
        Check.due("methods enough were read", test.methods.size() > 100, true);
        for (ClassFile.Code code : test.methods.values()) {
            test.checkCalls(code);
            test.checkMakes(code);
            Check.due(code.name + " has at most " + LONGEST + " lines, not " + code.lines, code.lines <= LONGEST, true);
            Check.due(code.name + " calls at most " + DEEPEST + " deep", test.depthOf(code.name) <= DEEPEST, true);
        }
        Check.due("the deepest calls were found", test.depthOf("CairnCipher.pass:(I)I") >= 6, true);
        Check.end();
    }

    private void read(String className) throws IOException {
        for (ClassFile.Code code : ClassFile.methodsOf(className)) {
            methods.put(code.name, code);
        }
    }

    private static String withoutTypes(String name) {
        return name.substring(0, name.indexOf(':'));
    }

    private void checkCalls(ClassFile.Code code) {
        for (String called : code.calls) {
            boolean isOwn = methods.containsKey(called);
            Check.due(code.name + " calls what it may, not " + called,
                    isOwn || called.contains(":") && LIBRARY.contains(withoutTypes(called)), true);
        }
    }

    private static void checkMakes(ClassFile.Code code) {
        String name = withoutTypes(code.name);
        for (String made : code.makes) {
            boolean mayMake = name.endsWith(".<init>") || MAKERS.contains(name) || made.endsWith("Exception");
            Check.due(code.name + " makes nothing, not " + made, mayMake, true);
        }
    }

    /** How many of the class's own methods stand open at once, at most; one that comes back to itself is too deep. */
    private int depthOf(String name) {
        if (!methods.containsKey(name)) {
            return 0;
        }
        if (!depths.containsKey(name)) {
            open.add(name);
            int deepest = 0;
            for (String called : methods.get(name).calls) {
                deepest = Math.max(deepest, open.contains(called) ? DEEPEST : depthOf(called));
            }
            open.remove(name);
            depths.put(name, deepest + 1);
        }
        return depths.get(name);
    }
}
