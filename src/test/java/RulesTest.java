import java.io.IOException;
import java.lang.reflect.Field;
import java.lang.reflect.Modifier;
import java.util.ArrayList;
import java.util.Arrays;
import java.util.HashSet;
import java.util.List;
import java.util.Map;
import java.util.Set;
import java.util.TreeMap;
import java.util.TreeSet;
import java.util.regex.Pattern;

/** The rules of LANGUAGE.md, as far as they can be seen in what javac has made of the program (the face: FaceTest). */
public final class RulesTest {
    private static final Set<String> LIBRARY = Set.of("java/lang/Object.<init>", "java/lang/Math.min", "java/lang/Math.max",
            "java/lang/String.length", "java/lang/String.charAt", "java/lang/String.indexOf",
            "java/lang/IllegalStateException.<init>", "java/lang/IllegalArgumentException.<init>",
            "java/lang/IndexOutOfBoundsException.<init>");
    private static final Set<String> EXCEPTIONS = Set.of("java/lang/IllegalStateException",
            "java/lang/IllegalArgumentException", "java/lang/IndexOutOfBoundsException");
    private static final Pattern TYPES = Pattern.compile("\\(?(\\[{0,2}[IJSBCZDF]|\\[?LBiscuitMess[^;]*;|Ljava/lang/String;|\\)|V)*");
    private static final int DEPTHS = 9;
    private static final int DEEPEST = 8;
    private static final int OPEN_CALLS = 300;

    private static final List<Class<?>> CLASSES = new ArrayList<>();
    private static final Map<String, ClassFile.Method> METHODS = new TreeMap<>();

    private static void dueTrue(String what, boolean got) {
        Check.due(what, got ? 1 : 0, 1);
    }

    private static void typesAndClasses() {
        Check.sentence("11: the file has at most some twelve classes, and a class some twenty fields beside its constants");
        dueTrue("the number of classes", CLASSES.size() <= 12);
        for (Class<?> one : CLASSES) {
            dueTrue(one + " stands in the class itself", one == BiscuitMess.class || one.getDeclaringClass() == BiscuitMess.class);
            int fields = 0;
            for (Field field : one.getDeclaredFields()) {
                Check.sentence("3: types");
                dueTrue(field.toString(), TYPES.matcher(field.getType().descriptorString()).matches());
                Check.sentence("5: static fields are final: constants");
                boolean fixed = Modifier.isStatic(field.getModifiers());
                boolean text = field.getType() == String.class || field.getType().isPrimitive();
                dueTrue(field.toString(), !fixed || Modifier.isFinal(field.getModifiers()) && text);
                fields += fixed ? 0 : 1;
            }
            Check.sentence("11: a class has some twenty fields beside its constants");
            dueTrue("the fields of " + one, fields <= 20);
        }
    }

    private static void methods() {
        for (ClassFile.Method method : METHODS.values()) {
            Check.sentence("3: types");
            dueTrue(method.name + method.descriptor, TYPES.matcher(method.descriptor).matches());
            Check.sentence("3: on doubles and floats only + - * /, comparisons and casts");
            dueTrue(method.name + " has a remainder of doubles", !method.has(114, 115));
            Check.sentence("5: no static initialiser block");
            dueTrue(method.name, !method.name.endsWith(".<clinit>"));
            Check.sentence("6: no equals, hashCode or toString of your own");
            dueTrue(method.name, !Pattern.matches(".*\\.(equals|hashCode|toString)", method.name));
            Check.sentence("6: no throw in a constructor");
            dueTrue(method.name, !method.isConstructor() || !method.has(ClassFile.ATHROW, ClassFile.ATHROW));
            Check.sentence("7: a cast only behind the test that makes it safe: there is none");
            dueTrue(method.name, !method.has(192, 193));
            Check.sentence("No call answers by catching an exception: there is no try");
            dueTrue(method.name, !method.catches);
            Check.sentence("6: no synchronized");
            dueTrue(method.name, !method.has(194, 195));
            Check.sentence("11: a method takes at most seven parameters, and stays short (some sixty lines)");
            dueTrue("the parameters of " + method.name, parameters(method.descriptor) <= 7);
            dueTrue("the lines of " + method.name, method.lastLine - method.firstLine + 3 <= 60);
        }
    }

    private static int parameters(String descriptor) {
        String inside = descriptor.substring(1, descriptor.indexOf(')'));
        return inside.replace("[", "").replaceAll("L[^;]*;", "L").length();
    }

    private static void libraryAndObjects() {
        for (ClassFile.Method method : METHODS.values()) {
            Check.sentence("4: the library: only what stands here; 2 and 10: no lambda, texts not joined by +");
            for (String called : method.calls) {
                dueTrue(method.name + " calls " + called, METHODS.containsKey(called) || LIBRARY.contains(called));
            }
            Check.sentence("12: no call but the constructor makes an object, but for the exceptions");
            dueTrue(method.name + " makes an array", method.isConstructor() || !method.has(188, 189) && !method.has(197, 197));
            for (String made : method.makes) {
                boolean own = METHODS.containsKey(made + ".<init>");
                dueTrue(method.name + " makes " + made, own ? method.isConstructor() : EXCEPTIONS.contains(made));
            }
            Check.sentence("6: exceptions: only those that the document names, thrown by the face itself");
            int thrown = (int) method.codes.stream().filter(code -> code == ClassFile.ATHROW).count();
            int exceptions = (int) method.makes.stream().filter(EXCEPTIONS::contains).count();
            Check.due("what is thrown in " + method.name, thrown, exceptions);
            dueTrue(method.name + " throws", thrown == 0 || method.owner.equals("BiscuitMess"));
        }
    }

    /** All that can be reached from there by calls, not the method itself but where it is reached once more. */
    private static Set<String> reached(String from) {
        Set<String> seen = new TreeSet<>();
        List<String> open = new ArrayList<>(List.of(from));
        while (!open.isEmpty()) {
            ClassFile.Method method = METHODS.get(open.remove(open.size() - 1));
            for (String called : method == null ? List.<String>of() : method.calls) {
                if (seen.add(called)) {
                    open.add(called);
                }
            }
        }
        return seen;
    }

    private static void recursion() {
        Check.sentence("8: recursion: private methods that call one another, the depth is carried as an argument");
        Set<String> recursive = new TreeSet<>();
        for (String name : METHODS.keySet()) {
            if (reached(name).contains(name)) {
                recursive.add(name);
                dueTrue(name + " has the depth", METHODS.get(name).descriptor.equals("(I)Z"));
            }
        }
        dueTrue("only the reader calls itself: " + recursive, recursive.equals(new TreeSet<>(Arrays.asList("Reader.test",
                "Reader.both", "Reader.single", "Reader.sum", "Reader.product", "Reader.value"))));
        Check.sentence("8: the calls that stand open at once stay under 300");
        dueTrue("open calls", DEPTHS * recursive.size() + DEEPEST < OPEN_CALLS);
        Check.sentence("11: calls that are no recursion go at most eight deep");
        for (String name : METHODS.keySet()) {
            if (name.startsWith("BiscuitMess.")) {
                int deep = deepest(name, recursive, new HashSet<>());
                dueTrue(name + " goes " + deep + " deep", deep <= DEEPEST);
            }
        }
    }

    /** How many calls stand open at once below it, and it; methods that call one another count as one. */
    private static int deepest(String name, Set<String> recursive, Set<String> ring) {
        ClassFile.Method method = METHODS.get(name);
        if (method == null) {
            return 1;
        }
        int most = 0;
        for (String called : method.calls) {
            boolean together = recursive.contains(name) && recursive.contains(called) && reached(called).contains(name);
            if (!together) {
                most = Math.max(most, 1 + deepest(called, recursive, new HashSet<>()));
            } else if (ring.add(called)) {
                most = Math.max(most, deepest(called, recursive, ring));
            }
        }
        return Math.max(most, 1);
    }

    public static void main(String[] args) throws IOException {
        CLASSES.add(BiscuitMess.class);
        CLASSES.addAll(Arrays.asList(BiscuitMess.class.getDeclaredClasses()));
        for (Class<?> one : CLASSES) {
            for (ClassFile.Method method : new ClassFile(one).methods) {
                ClassFile.Method other = METHODS.put(method.name, method);
                dueTrue(method.name + " is the name of one method alone", other == null);
            }
        }
        typesAndClasses();
        methods();
        libraryAndObjects();
        recursion();
        Check.end("RulesTest");
    }
}
