import java.lang.reflect.Constructor;
import java.lang.reflect.Executable;
import java.lang.reflect.Field;
import java.lang.reflect.Method;
import java.lang.reflect.Modifier;
import java.util.Arrays;
import java.util.Set;
import java.util.TreeSet;
import java.util.regex.Matcher;
import java.util.regex.Pattern;
import java.util.stream.Collectors;

/** The public face as the document prints it; rules 1, 5 and 11 of LANGUAGE.md as far as reflection sees them. */
public final class FaceTest {
    private static final Checks CHECKS = new Checks("FaceTest");

    private FaceTest() {
    }

    public static void main(String[] args) throws IllegalAccessException {
        publicFace();
        nothingElseShows();
        insideClasses();
        CHECKS.end();
    }

    /** The lines of the document's face between its brackets, without the names of the arguments. */
    private static Set<String> faceOfTheDocument() {
        Matcher block = Pattern.compile("```java public final class BillArchive \\{ (.*?;) \\} ```")
            .matcher(CHECKS.document());
        Set<String> face = new TreeSet<>();
        if (block.find()) {
            for (String line : block.group(1).split(";")) {
                face.add(line.strip().replaceAll("(int|long|boolean) \\w+(?=[,)])", "$1"));
            }
        }
        return face;
    }

    private static String head(Executable one, String name) {
        String types = Arrays.stream(one.getParameterTypes()).map(Class::getSimpleName)
            .collect(Collectors.joining(", "));
        String thrown = Arrays.stream(one.getExceptionTypes()).map(Class::getSimpleName)
            .collect(Collectors.joining(", "));
        String modifiers = Modifier.toString(one.getModifiers());
        return modifiers + " " + name + "(" + types + ")" + (thrown.isEmpty() ? "" : " throws " + thrown);
    }

    private static void publicFace() throws IllegalAccessException {
        Set<String> want = faceOfTheDocument();
        CHECKS.same("a constant, a constructor and a method for each promise behind the first", 34, want.size());
        Set<String> got = new TreeSet<>();
        for (Field field : BillArchive.class.getDeclaredFields()) {
            if (!Modifier.isPrivate(field.getModifiers())) {
                got.add(Modifier.toString(field.getModifiers()) + " " + field.getType() + " " + field.getName()
                    + " = " + field.get(null));
            }
        }
        for (Constructor<?> made : BillArchive.class.getDeclaredConstructors()) {
            got.add(head(made, made.getName()));
        }
        for (Method method : BillArchive.class.getDeclaredMethods()) {
            if (Modifier.isPublic(method.getModifiers())) {
                got.add(head(method, method.getReturnType().getSimpleName() + " " + method.getName()));
            }
        }
        CHECKS.same("the face", String.join("\n", want), String.join("\n", got));
        CHECKS.same("the class", "public final", Modifier.toString(BillArchive.class.getModifiers()));
        CHECKS.isTrue("no package", BillArchive.class.getPackageName().isEmpty());
        CHECKS.same("above it", "Object", BillArchive.class.getSuperclass().getSimpleName());
        CHECKS.same("interfaces", 0, BillArchive.class.getInterfaces().length);
    }

    private static Set<String> publicNames() {
        return Arrays.stream(BillArchive.class.getDeclaredMethods())
            .filter(method -> Modifier.isPublic(method.getModifiers())).map(Method::getName)
            .collect(Collectors.toSet());
    }

    private static void nothingElseShows() {
        Set<String> otherNames = new TreeSet<>();
        for (Method method : BillArchive.class.getDeclaredMethods()) {
            boolean isPublic = Modifier.isPublic(method.getModifiers());
            CHECKS.isTrue(method.getName() + " is public or private",
                isPublic || Modifier.isPrivate(method.getModifiers()));
            if (!isPublic) {
                otherNames.add(method.getName());
            }
        }
        otherNames.retainAll(publicNames());
        CHECKS.same("no private method bears the name of a public one", "[]", otherNames.toString());
        for (Field field : BillArchive.class.getDeclaredFields()) {
            boolean isFace = field.getName().equals("NONE");
            CHECKS.isTrue(field.getName() + " shows only if it is of the face",
                isFace == !Modifier.isPrivate(field.getModifiers()));
        }
    }

    private static void insideClasses() {
        Class<?>[] inside = BillArchive.class.getDeclaredClasses();
        CHECKS.isTrue("some twelve classes", inside.length <= 11);
        lookAt(BillArchive.class);
        for (Class<?> one : inside) {
            CHECKS.isTrue(one + " is static", Modifier.isStatic(one.getModifiers()));
            CHECKS.isTrue(one + " is not public", !Modifier.isPublic(one.getModifiers()));
            for (Method method : one.getDeclaredMethods()) {
                CHECKS.isTrue(method + " bears the name of a public one",
                    !Modifier.isPrivate(method.getModifiers()) || !publicNames().contains(method.getName()));
            }
            lookAt(one);
        }
    }

    private static void lookAt(Class<?> one) {
        int fields = 0;
        for (Field field : one.getDeclaredFields()) {
            boolean isStatic = Modifier.isStatic(field.getModifiers());
            fields += isStatic ? 0 : 1;
            CHECKS.isTrue(field + " is final if static", !isStatic || Modifier.isFinal(field.getModifiers()));
        }
        CHECKS.isTrue(one + " has some twenty fields", fields <= 20);
        for (Method method : one.getDeclaredMethods()) {
            CHECKS.isTrue(method + " takes at most seven", method.getParameterCount() <= 7);
        }
    }
}
