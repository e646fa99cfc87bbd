import java.lang.reflect.Constructor;
import java.lang.reflect.Field;
import java.lang.reflect.Method;
import java.lang.reflect.Modifier;
import java.util.Arrays;
import java.util.Set;
import java.util.TreeSet;
import java.util.stream.Collectors;

/** The public face, and rules 1, 5 and 11 of LANGUAGE.md as far as reflection can see them. */
public final class FaceTest {
    private static final Checks CHECKS = new Checks("FaceTest");

    private static final String[] FACE = {
        "int append(int) IllegalArgumentException IllegalStateException",
        "int clearText()",
        "int errorPosition()",
        "int load() IllegalStateException",
        "int about(int) IllegalArgumentException",
        "int played(int,int) IndexOutOfBoundsException",
        "int bill(int,int,int) IndexOutOfBoundsException IllegalArgumentException",
        "int night(int,int) IndexOutOfBoundsException IllegalArgumentException",
        "int actor(int,int) IndexOutOfBoundsException IllegalArgumentException",
        "int ranked(int,int) IndexOutOfBoundsException IllegalArgumentException",
        "int found(int,int) IndexOutOfBoundsException IllegalArgumentException",
        "int setting(int) IllegalArgumentException",
        "int addActor(int) IllegalArgumentException IllegalStateException",
        "int addPart() IllegalStateException",
        "int cast(int,int,int) IndexOutOfBoundsException",
        "int understudy(int,int) IndexOutOfBoundsException IllegalStateException",
        "int release(int,int) IndexOutOfBoundsException IllegalStateException",
        "int ill(int,int,boolean) IndexOutOfBoundsException",
        "int slip(int,int,int,int) IndexOutOfBoundsException IllegalArgumentException IllegalStateException",
        "int lose(int) IndexOutOfBoundsException",
        "int set(int,int) IllegalArgumentException",
        "int undo() IllegalStateException",
        "int find(int,int,int) IndexOutOfBoundsException IllegalArgumentException",
        "int together(int,int) IndexOutOfBoundsException",
        "int longest(int,int) IndexOutOfBoundsException",
        "int ifIll(int,int,int) IndexOutOfBoundsException IllegalArgumentException",
        "int bestUnderstudy(int) IndexOutOfBoundsException",
        "int needed()",
        "int runScript(int,long) IllegalArgumentException",
        "int simulate(long,int) IllegalArgumentException",
        "int save(int) IndexOutOfBoundsException",
        "int restore(int) IndexOutOfBoundsException IllegalStateException",
    };

    private FaceTest() {
    }

    public static void main(String[] args) {
        publicMethods();
        nothingElseShows();
        insideClasses();
        CHECKS.end();
    }

    private static String face(Method method) {
        String types = Arrays.stream(method.getParameterTypes()).map(Class::getSimpleName)
            .collect(Collectors.joining(","));
        String thrown = Arrays.stream(method.getExceptionTypes()).map(t -> " " + t.getSimpleName())
            .collect(Collectors.joining());
        return method.getReturnType().getSimpleName() + " " + method.getName() + "(" + types + ")" + thrown;
    }

    private static void publicMethods() {
        Set<String> want = new TreeSet<>(Arrays.asList(FACE));
        Set<String> got = new TreeSet<>();
        for (Method method : BillArchive.class.getDeclaredMethods()) {
            if (Modifier.isPublic(method.getModifiers())) {
                got.add(face(method));
            }
        }
        CHECKS.same("public methods", want.toString(), got.toString());
        Constructor<?>[] made = BillArchive.class.getDeclaredConstructors();
        CHECKS.same("constructors", 1, made.length);
        CHECKS.isTrue("the constructor", Modifier.isPublic(made[0].getModifiers()) && made[0].getParameterCount() == 0);
        CHECKS.isTrue("final", Modifier.isFinal(BillArchive.class.getModifiers()));
        CHECKS.isTrue("no package", BillArchive.class.getPackageName().isEmpty());
    }

    private static void nothingElseShows() {
        Set<String> publicNames = new TreeSet<>();
        Set<String> otherNames = new TreeSet<>();
        for (Method method : BillArchive.class.getDeclaredMethods()) {
            boolean isPublic = Modifier.isPublic(method.getModifiers());
            CHECKS.isTrue(method.getName() + " is public or private",
                isPublic || Modifier.isPrivate(method.getModifiers()));
            (isPublic ? publicNames : otherNames).add(method.getName());
        }
        otherNames.retainAll(publicNames);
        CHECKS.same("no private method bears the name of a public one", "[]", otherNames.toString());
        for (Field field : BillArchive.class.getDeclaredFields()) {
            boolean isFace = field.getName().equals("NONE");
            CHECKS.isTrue(field.getName() + " shows only if it is of the face",
                isFace == !Modifier.isPrivate(field.getModifiers()));
        }
    }

    private static void insideClasses() {
        Class<?>[] inside = BillArchive.class.getDeclaredClasses();
        CHECKS.isTrue("some twelve classes", inside.length <= 11);
        lookAt(BillArchive.class);
        for (Class<?> one : inside) {
            CHECKS.isTrue(one + " is static", Modifier.isStatic(one.getModifiers()));
            CHECKS.isTrue(one + " is not public", !Modifier.isPublic(one.getModifiers()));
            lookAt(one);
        }
    }

    private static void lookAt(Class<?> one) {
        int fields = 0;
        for (Field field : one.getDeclaredFields()) {
            boolean isStatic = Modifier.isStatic(field.getModifiers());
            fields += isStatic ? 0 : 1;
            CHECKS.isTrue(field + " is final if static", !isStatic || Modifier.isFinal(field.getModifiers()));
        }
        CHECKS.isTrue(one + " has some twenty fields", fields <= 20);
        for (Method method : one.getDeclaredMethods()) {
            CHECKS.isTrue(method + " takes at most seven", method.getParameterCount() <= 7);
        }
    }
}
