import java.lang.reflect.Constructor;
import java.lang.reflect.Field;
import java.lang.reflect.Method;
import java.lang.reflect.Modifier;
import java.util.ArrayList;
import java.util.Arrays;
import java.util.HashSet;
import java.util.List;
import java.util.Set;
import java.util.TreeSet;

/** LANGUAGE.md's rules of the face: the members of DOC.md, and no other that is not private. */
public final class FaceTest {
    private static final String[] FACE = {
        "int wide(int) IllegalArgumentException IllegalStateException",
        "int tell(int,int,int,int,int) IllegalArgumentException IllegalStateException",
        "int drop(int) IndexOutOfBoundsException",
        "int weigh(int,int) IndexOutOfBoundsException IllegalArgumentException",
        "int atMost(int,int) IllegalArgumentException IllegalStateException",
        "int say(int,int,int,int,int,int) IllegalArgumentException IllegalStateException",
        "int sentence() IllegalStateException",
        "int clear()",
        "int score(int,int) IllegalArgumentException",
        "boolean sign(int,boolean) IllegalArgumentException",
        "int step()",
        "int run(int) IllegalArgumentException",
        "int anew()",
        "int forget(int) IllegalArgumentException",
        "int blank()",
        "int knock()",
        "String clause(int) IndexOutOfBoundsException",
        "int ofClause(int,int) IndexOutOfBoundsException IllegalArgumentException",
        "int trail(int,int) IndexOutOfBoundsException IllegalArgumentException",
        "String trailed()",
        "String line(int) IllegalArgumentException",
        "int house(int) IllegalArgumentException",
        "String typed()",
        "int fault()",
        "int models()",
        "String model(int) IllegalArgumentException",
        "String fixed()",
        "int part(int,boolean) IndexOutOfBoundsException",
        "int ofVariable(int,int) IllegalArgumentException",
        "int assume(int,int) IllegalArgumentException",
        "String failing(int,int) IllegalArgumentException",
        "String follows(int,int) IllegalArgumentException",
        "String core()",
        "int leastCore()",
        "int best(boolean)",
        "boolean isSound()",
        "long digest()"};

    private FaceTest() {
    }

    private static String faceOf(Method method) {
        StringBuilder s = new StringBuilder(method.getReturnType().getSimpleName());
        List<String> types = new ArrayList<>();
        for (Class<?> type : method.getParameterTypes()) {
            types.add(type.getSimpleName());
        }
        s.append(' ').append(method.getName()).append('(').append(String.join(",", types)).append(')');
        for (Class<?> thrown : method.getExceptionTypes()) {
            s.append(' ').append(thrown.getSimpleName());
        }
        return s.toString();
    }

    private static void checkFields(Class<?> type) {
        int own = 0;
        for (Field field : type.getDeclaredFields()) {
            boolean isStatic = Modifier.isStatic(field.getModifiers());
            own += isStatic ? 0 : 1;
            Check.due("static final " + field, true, !isStatic || Modifier.isFinal(field.getModifiers()));
        }
        Check.due("some twenty fields of " + type, true, own <= 20);
    }

    private static void checkMethods(Class<?> type, Set<String> names) {
        for (Method method : type.getDeclaredMethods()) {
            Check.due("seven parameters of " + method, true, method.getParameterCount() <= 7);
            Check.due("not made by the compiler: " + method, false, method.isSynthetic());
            boolean isFace = type == Clausehall.class && Modifier.isPublic(method.getModifiers());
            Check.due("another name than one of the face: " + method, false,
                    !isFace && names.contains(method.getName()));
        }
    }

    public static void main(String[] args) {
        Class<?> type = Clausehall.class;
        Check.due("public final", Modifier.PUBLIC | Modifier.FINAL, type.getModifiers());
        Constructor<?>[] made = type.getDeclaredConstructors();
        Check.due("one constructor", 1, made.length);
        Check.due("public", true, Modifier.isPublic(made[0].getModifiers()) && made[0].getParameterCount() == 0);
        TreeSet<String> open = new TreeSet<>();
        Set<String> names = new HashSet<>();
        for (Method method : type.getDeclaredMethods()) {
            if (!Modifier.isPrivate(method.getModifiers())) {
                Check.due("public alone: " + method, Modifier.PUBLIC, method.getModifiers());
                open.add(faceOf(method));
                names.add(method.getName());
            }
        }
        Check.due("the face", new TreeSet<>(Arrays.asList(FACE)), open);
        for (Field field : type.getDeclaredFields()) {
            Check.due("private " + field, true, Modifier.isPrivate(field.getModifiers()));
        }
        checkFields(type);
        checkMethods(type, names);
        Class<?>[] inside = type.getDeclaredClasses();
        Check.due("some twelve classes", true, inside.length < 12);
        for (Class<?> one : inside) {
            Check.due("static " + one, true, Modifier.isStatic(one.getModifiers()));
            Check.due("not open " + one, false,
                    Modifier.isPublic(one.getModifiers()) || Modifier.isProtected(one.getModifiers()));
            checkFields(one);
            checkMethods(one, names);
        }
        Check.end();
    }
}
