import java.lang.reflect.Constructor;
import java.lang.reflect.Field;
import java.lang.reflect.Method;
import java.lang.reflect.Modifier;
import java.util.Arrays;
import java.util.HashSet;
import java.util.Set;
import java.util.TreeSet;

/** The document's public face, and rule 1 of LANGUAGE.md: no other member is seen from outside. */
public final class FaceTest {
    private static final String[] FACE = {
        "SorterSteps(int, int)",
        "int item(int) IllegalArgumentException UnsupportedOperationException",
        "int induct(int, int, int) IllegalArgumentException IllegalStateException",
        "int length(int) IllegalArgumentException",
        "void retry(int, int, int) IllegalArgumentException IllegalStateException",
        "int step(int) IllegalArgumentException IllegalStateException",
        "int out(int, int) IllegalArgumentException",
        "boolean chute(int, boolean) IllegalArgumentException",
        "int jam(int, int) IllegalArgumentException IllegalStateException",
        "int doubt(int)",
        "int found(int, boolean) IllegalArgumentException IllegalStateException",
        "int retrack() IllegalStateException",
        "boolean manual(int, int) IllegalArgumentException IllegalStateException",
        "int tray(int) ArrayIndexOutOfBoundsException",
        "int told(int, int) IllegalArgumentException",
        "int count(int)"};

    public static void main(String[] args) {
        publicFace();
        nothingElseSeen();
        noPrivateMethodWithAPublicName();
        Check.end();
    }

    private static void publicFace() {
        Class<?> face = SorterSteps.class;
        Check.due("public", true, Modifier.isPublic(face.getModifiers()));
        Check.due("final", true, Modifier.isFinal(face.getModifiers()));
        Set<String> seen = new TreeSet<>();
        for (Constructor<?> made : face.getConstructors()) {
            seen.add("SorterSteps" + types(made.getParameterTypes()) + thrown(made.getExceptionTypes()));
        }
        for (Method method : face.getDeclaredMethods()) {
            if (Modifier.isPublic(method.getModifiers())) {
                seen.add(method.getReturnType() + " " + method.getName() + types(method.getParameterTypes())
                    + thrown(method.getExceptionTypes()));
            }
        }
        Check.due("the face", new TreeSet<>(Arrays.asList(FACE)).toString(), seen.toString());
    }

    private static void nothingElseSeen() {
        for (Field field : SorterSteps.class.getDeclaredFields()) {
            Check.due(field.getName() + " is private", true, Modifier.isPrivate(field.getModifiers()));
            if (Modifier.isStatic(field.getModifiers())) {
                Check.due(field.getName() + " is final", true, Modifier.isFinal(field.getModifiers()));
            }
        }
        for (Method method : SorterSteps.class.getDeclaredMethods()) {
            int seen = method.getModifiers();
            Check.due(method.getName() + " is public or private", true,
                Modifier.isPublic(seen) || Modifier.isPrivate(seen));
        }
        for (Class<?> inside : SorterSteps.class.getDeclaredClasses()) {
            int seen = inside.getModifiers();
            Check.due(inside.getName() + " is static and not seen", true,
                Modifier.isStatic(seen) && !Modifier.isPublic(seen) && !Modifier.isProtected(seen));
        }
    }

    private static void noPrivateMethodWithAPublicName() {
        Set<String> names = new HashSet<>();
        for (Method method : SorterSteps.class.getDeclaredMethods()) {
            if (Modifier.isPublic(method.getModifiers())) {
                names.add(method.getName());
            }
        }
        for (Method method : SorterSteps.class.getDeclaredMethods()) {
            if (Modifier.isPrivate(method.getModifiers())) {
                Check.due(method.getName() + " is a public name", false, names.contains(method.getName()));
            }
        }
    }

    private static String types(Class<?>[] types) {
        StringBuilder text = new StringBuilder("(");
        for (int k = 0; k < types.length; k++) {
            text.append(k == 0 ? "" : ", ").append(types[k].getSimpleName());
        }
        return text.append(")").toString();
    }

    private static String thrown(Class<?>[] types) {
        StringBuilder text = new StringBuilder();
        for (Class<?> type : types) {
            text.append(" ").append(type.getSimpleName());
        }
        return text.toString();
    }
}
