import java.lang.reflect.Constructor;
import java.lang.reflect.Field;
import java.lang.reflect.Method;
import java.lang.reflect.Modifier;
import java.util.Arrays;
import java.util.HashSet;
import java.util.Set;
import java.util.TreeSet;

/** The public face of the document, and rule 1 of LANGUAGE.md about what else there may be. */
public final class FaceTest {
    private static final Set<String> FACE = new TreeSet<>(Arrays.asList(
            "boolean letter(char)", "int intern()", "int words()", "int spell(int,int)",
            "int insert(int,int,int)", "int remove(int,int,int)", "int merge()", "int size()",
            "int pending()", "int merges()", "int triple(int,int)", "int where(int,int,int)",
            "void clear()", "int run(int,int,int)", "int answer(int,int)", "int live()"));
    private static final Check CHECK = new Check();

    public static void main(String[] args) throws Exception {
        CHECK.due("BAD", SixfoldTriples.BAD, -1);
        CHECK.due("FULL", SixfoldTriples.FULL, -2);
        classIsPublicAndFinal();
        constructors();
        constants();
        methods();
        nestedClasses();
        CHECK.end();
    }

    private static void classIsPublicAndFinal() {
        int modifiers = SixfoldTriples.class.getModifiers();
        CHECK.due("public final", Modifier.isPublic(modifiers) && Modifier.isFinal(modifiers), true);
    }

    private static void constructors() {
        Constructor<?>[] all = SixfoldTriples.class.getDeclaredConstructors();
        CHECK.due("how many constructors", all.length, 1);
        CHECK.due("public constructor", Modifier.isPublic(all[0].getModifiers()), true);
        CHECK.due("parameters of the constructor", all[0].getParameterCount(), 0);
    }

    private static void constants() {
        Set<String> visible = new HashSet<>();
        for (Field field : SixfoldTriples.class.getDeclaredFields()) {
            int modifiers = field.getModifiers();
            if (Modifier.isStatic(modifiers)) {
                CHECK.due("final " + field.getName(), Modifier.isFinal(modifiers), true);
            }
            if (!Modifier.isPrivate(modifiers)) {
                CHECK.due("public static int " + field.getName(), Modifier.isPublic(modifiers)
                        && Modifier.isStatic(modifiers) && field.getType() == int.class, true);
                visible.add(field.getName());
            }
        }
        CHECK.due("visible fields " + visible,
                visible.equals(new HashSet<>(Arrays.asList("BAD", "FULL"))), true);
    }

    private static void methods() {
        Set<String> visible = new TreeSet<>();
        Set<String> visibleNames = new HashSet<>();
        for (Method method : SixfoldTriples.class.getDeclaredMethods()) {
            if (!Modifier.isPrivate(method.getModifiers())) {
                CHECK.due("public " + method, Modifier.isPublic(method.getModifiers()), true);
                CHECK.due("static " + method, Modifier.isStatic(method.getModifiers()), false);
                visible.add(signature(method));
                visibleNames.add(method.getName());
            }
        }
        CHECK.due("visible methods " + visible, visible.equals(FACE), true);
        noPrivateNamesake(SixfoldTriples.class, visibleNames);
        for (Class<?> nested : SixfoldTriples.class.getDeclaredClasses()) {
            noPrivateNamesake(nested, visibleNames);
        }
    }

    private static String signature(Method method) {
        StringBuilder text = new StringBuilder();
        text.append(method.getReturnType().getName()).append(' ').append(method.getName()).append('(');
        for (Class<?> type : method.getParameterTypes()) {
            text.append(text.charAt(text.length() - 1) == '(' ? "" : ",").append(type.getName());
        }
        return text.append(')').toString();
    }

    private static void noPrivateNamesake(Class<?> type, Set<String> publicNames) {
        for (Method method : type.getDeclaredMethods()) {
            if (Modifier.isPrivate(method.getModifiers())) {
                CHECK.due("a public method's name: " + method, publicNames.contains(method.getName()), false);
            }
        }
    }

    private static void nestedClasses() {
        Class<?>[] nested = SixfoldTriples.class.getDeclaredClasses();
        CHECK.due("at most twelve classes", nested.length < 12, true);
        for (Class<?> type : nested) {
            int modifiers = type.getModifiers();
            CHECK.due("static " + type, Modifier.isStatic(modifiers), true);
            CHECK.due("not visible outside " + type,
                    Modifier.isPublic(modifiers) || Modifier.isProtected(modifiers), false);
        }
    }
}
