import java.lang.reflect.Constructor;
import java.lang.reflect.Field;
import java.lang.reflect.Method;
import java.lang.reflect.Modifier;
import java.util.TreeSet;
import java.util.Arrays;
import java.util.Set;

/** The class has the face of the document, and nothing else that can be seen from outside. */
public final class FaceTest {
    private static final String[] METHODS = {
        "int feed(int,int,int,int,int) IllegalStateException",
        "int trim(int) IllegalArgumentException",
        "int teach()",
        "int errorAt()",
        "int count(int) IndexOutOfBoundsException",
        "int cask(int,int) IndexOutOfBoundsException",
        "int mess(int,int) IndexOutOfBoundsException",
        "int tap(int,int) IndexOutOfBoundsException IllegalArgumentException",
        "int setRation(int) IllegalArgumentException",
        "int sift(int) IndexOutOfBoundsException IllegalStateException",
        "int fill(int,int) IndexOutOfBoundsException IllegalArgumentException",
        "int dry(int) IndexOutOfBoundsException",
        "int pass(int) IllegalArgumentException",
        "int lasts(int) IndexOutOfBoundsException",
        "int mutiny(int,int) IndexOutOfBoundsException IllegalArgumentException",
        "int foresee(int,int) IllegalArgumentException IndexOutOfBoundsException",
        "int advise(int) IllegalArgumentException",
        "int choose(int) IllegalArgumentException",
        "double mean()",
        "long digest()",
    };

    private static String faceOf(Method method) {
        StringBuilder text = new StringBuilder();
        text.append(method.getReturnType().getName()).append(' ').append(method.getName()).append('(');
        for (int i = 0; i < method.getParameterCount(); i++) {
            text.append(i == 0 ? "" : ",").append(method.getParameterTypes()[i].getName());
        }
        text.append(')');
        for (Class<?> thrown : method.getExceptionTypes()) {
            text.append(' ').append(thrown.getSimpleName());
        }
        return text.toString();
    }

    public static void main(String[] args) {
        Class<?> face = BiscuitMess.class;
        Check.due("the class is public and final", face.getModifiers() & (Modifier.PUBLIC | Modifier.FINAL),
                Modifier.PUBLIC | Modifier.FINAL);
        Set<String> seen = new TreeSet<>();
        Set<String> names = new TreeSet<>();
        for (Method method : face.getDeclaredMethods()) {
            if (!Modifier.isPrivate(method.getModifiers())) {
                Check.due(method + " is public", method.getModifiers(), Modifier.PUBLIC);
                seen.add(faceOf(method));
                names.add(method.getName());
            }
        }
        Check.due("the public methods " + seen, seen.equals(new TreeSet<>(Arrays.asList(METHODS))) ? 1 : 0, 1);
        for (Constructor<?> made : face.getDeclaredConstructors()) {
            Check.due("the constructor is public", made.getModifiers(), Modifier.PUBLIC);
            Check.due("the constructor's parameters", made.getParameterCount(), 0);
        }
        for (Field field : face.getDeclaredFields()) {
            Check.due(field + " is private", field.getModifiers() & Modifier.PRIVATE, Modifier.PRIVATE);
        }
        for (Method method : face.getDeclaredMethods()) {
            boolean hidden = Modifier.isPrivate(method.getModifiers()) && names.contains(method.getName());
            Check.due(method + " bears a public name", hidden ? 1 : 0, 0);
        }
        for (Class<?> inside : face.getDeclaredClasses()) {
            Check.due(inside + " is private and static", inside.getModifiers() & (Modifier.PRIVATE | Modifier.STATIC),
                    Modifier.PRIVATE | Modifier.STATIC);
            for (Field field : inside.getDeclaredFields()) {
                boolean loose = Modifier.isStatic(field.getModifiers()) && !Modifier.isFinal(field.getModifiers());
                Check.due(field + " is static and not final", loose ? 1 : 0, 0);
            }
        }
        Check.end("FaceTest");
    }
}
