import java.lang.reflect.Constructor;
import java.lang.reflect.Field;
import java.lang.reflect.Member;
import java.lang.reflect.Method;
import java.lang.reflect.Modifier;
import java.util.Arrays;
import java.util.Set;
import java.util.TreeSet;
import java.util.stream.Collectors;

/** The public face: each member of the document, and no other one that is not private. */
public final class FaceTest {
    private static final String[] METHODS = {
        "int append(int) IllegalArgumentException IllegalStateException",
        "int clearText()",
        "int errorPosition()",
        "int load() IllegalStateException",
        "int about(int) IllegalArgumentException",
        "int room(int,int) IndexOutOfBoundsException IllegalArgumentException",
        "int does(int) IndexOutOfBoundsException",
        "int setting(int) IllegalArgumentException",
        "int add(int,int,int) IllegalArgumentException IllegalStateException",
        "int door(int,boolean) IndexOutOfBoundsException",
        "int goods(int,int) IndexOutOfBoundsException IllegalArgumentException",
        "int run(int) IllegalArgumentException",
        "int set(int,int) IllegalArgumentException",
        "int undo() IllegalStateException",
        "int spare()",
        "int warmIn(int) IndexOutOfBoundsException",
        "int coming(int,int) IllegalArgumentException",
        "int leastLimit(int) IllegalArgumentException",
        "int bestShut()",
        "int runScript(int,long) IllegalArgumentException",
        "int simulate(long,int) IllegalArgumentException",
        "int save(int) IndexOutOfBoundsException",
        "int restore(int) IndexOutOfBoundsException IllegalStateException",
    };

    public static void main(String[] args) {
        Checks checks = new Checks("FaceTest");
        Class<?> face = MeterRooms.class;
        checks.due("the class is public and final", Modifier.PUBLIC | Modifier.FINAL, face.getModifiers());
        checks.same("the methods", new TreeSet<>(Set.of(METHODS)).toString(), methods(face).toString());
        checks.same("the constructors", "[public MeterRooms()]", constructors(face));
        checks.same("the fields", "[public static final int MeterRooms.NONE]", fields(face));
        checks.due("NONE", -1, MeterRooms.NONE);
        checks.due("private methods with a public name", 0, sharedNames(face));
        int classes = 1;
        sizes(checks, face);
        for (Class<?> inside : face.getDeclaredClasses()) {
            classes++;
            checks.due(inside + " is static", 1, Modifier.isStatic(inside.getModifiers()) ? 1 : 0);
            checks.due(inside + " is private", 1, Modifier.isPrivate(inside.getModifiers()) ? 1 : 0);
            checks.due(inside + " has a public name", 0, publicNames(face, inside));
            sizes(checks, inside);
        }
        checks.due("classes over 12", 0, Math.max(0, classes - 12));
        checks.end();
    }

    /** LANGUAGE.md, rules 5 and 11: no changing static fields, few fields and parameters. */
    private static void sizes(Checks checks, Class<?> c) {
        int fields = 0;
        for (Field field : c.getDeclaredFields()) {
            boolean constant = Modifier.isStatic(field.getModifiers());
            fields += constant ? 0 : 1;
            checks.due(field + " is final if it is static", constant ? 1 : 0,
                    constant && Modifier.isFinal(field.getModifiers()) ? 1 : 0);
        }
        checks.due(c + " has fields over 20", 0, Math.max(0, fields - 20));
        for (Method method : c.getDeclaredMethods()) {
            checks.due(method + " has parameters over 7", 0, Math.max(0, method.getParameterCount() - 7));
        }
    }

    private static long publicNames(Class<?> face, Class<?> inside) {
        Set<String> names = Arrays.stream(face.getDeclaredMethods()).filter(FaceTest::isSeen)
                .map(Method::getName).collect(Collectors.toSet());
        return Arrays.stream(inside.getDeclaredMethods()).filter(m -> names.contains(m.getName())).count();
    }

    private static boolean isSeen(Member member) {
        return !Modifier.isPrivate(member.getModifiers());
    }

    private static Set<String> methods(Class<?> face) {
        Set<String> all = new TreeSet<>();
        for (Method method : face.getDeclaredMethods()) {
            if (isSeen(method)) {
                String types = Arrays.stream(method.getParameterTypes()).map(Class::getName)
                        .collect(Collectors.joining(","));
                StringBuilder text = new StringBuilder();
                text.append(method.getReturnType()).append(' ').append(method.getName());
                text.append('(').append(types).append(')');
                for (Class<?> thrown : method.getExceptionTypes()) {
                    text.append(' ').append(thrown.getSimpleName());
                }
                all.add(text.toString());
            }
        }
        return all;
    }

    private static String constructors(Class<?> face) {
        return Arrays.stream(face.getDeclaredConstructors()).filter(FaceTest::isSeen)
                .map(Constructor::toString).toList().toString();
    }

    private static String fields(Class<?> face) {
        return Arrays.stream(face.getDeclaredFields()).filter(FaceTest::isSeen)
                .map(Field::toString).toList().toString();
    }

    private static long sharedNames(Class<?> face) {
        Set<String> names = Arrays.stream(face.getDeclaredMethods()).filter(FaceTest::isSeen)
                .map(Method::getName).collect(Collectors.toSet());
        return Arrays.stream(face.getDeclaredMethods())
                .filter(m -> !isSeen(m) && names.contains(m.getName())).count();
    }
}
