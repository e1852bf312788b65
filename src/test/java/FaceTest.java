import java.lang.reflect.Constructor;
import java.lang.reflect.Field;
import java.lang.reflect.Member;
import java.lang.reflect.Method;
import java.lang.reflect.Modifier;
import java.util.Arrays;
import java.util.Set;
import java.util.TreeSet;

/** The class shows the document's face and nothing else (LANGUAGE.md, rules 1 and 5). */
public final class FaceTest {
    private static final Set<String> FACE = new TreeSet<>(Arrays.asList(
            "DONE", "REFUSED", "FULL", "GONE", "FAILED",
            "LeaseDesk()",
            "int export(int)",
            "int lease(int, int, int, int)",
            "int release(int, int, int)",
            "int tick(int)",
            "int bind(int, int, boolean)",
            "int unbind(int)",
            "int lookup(int)",
            "int call(int, int, int, long)",
            "long value()",
            "int failure(int, int)",
            "int suppressed(int, int)",
            "long suppressedMessage(int, int)",
            "int object(int, int)",
            "int count(int)"));

    private static int wrong = 0;

    private static void due(String what, boolean holds) {
        if (!holds) {
            wrong++;
            System.out.println(what);
        }
    }

    private static String parameters(Class<?>[] types) {
        StringBuilder text = new StringBuilder("(");
        for (Class<?> type : types) {
            text.append(text.length() > 1 ? ", " : "").append(type.getName());
        }
        return text.append(")").toString();
    }

    private static void show(Set<String> shown, Member member, String told) {
        if (!Modifier.isPrivate(member.getModifiers()) && !member.isSynthetic()) {
            due(told + " is seen, but not public", Modifier.isPublic(member.getModifiers()));
            shown.add(told);
        }
    }

    private static Set<String> shownMembers() {
        Set<String> shown = new TreeSet<>();
        for (Field field : LeaseDesk.class.getDeclaredFields()) {
            show(shown, field, field.getName());
        }
        for (Constructor<?> maker : LeaseDesk.class.getDeclaredConstructors()) {
            show(shown, maker, "LeaseDesk" + parameters(maker.getParameterTypes()));
        }
        for (Method method : LeaseDesk.class.getDeclaredMethods()) {
            show(shown, method, method.getReturnType().getName() + " " + method.getName()
                    + parameters(method.getParameterTypes()));
        }
        return shown;
    }

    private static Set<String> publicMethodNames() {
        Set<String> names = new TreeSet<>();
        for (Method method : LeaseDesk.class.getDeclaredMethods()) {
            if (Modifier.isPublic(method.getModifiers())) {
                names.add(method.getName());
            }
        }
        return names;
    }

    private static void lookAt(Class<?> type, Set<String> taken) {
        for (Field field : type.getDeclaredFields()) {
            boolean changes = Modifier.isStatic(field.getModifiers()) && !Modifier.isFinal(field.getModifiers());
            due(type.getName() + "." + field.getName() + " is static and not final", !changes);
        }
        for (Method method : type.getDeclaredMethods()) {
            boolean ownFace = type == LeaseDesk.class && Modifier.isPublic(method.getModifiers());
            due(type.getName() + "." + method.getName() + " bears the name of a public method",
                    ownFace || !taken.contains(method.getName()));
            due(type.getName() + "." + method.getName() + " has over seven parameters",
                    method.getParameterCount() <= 7);
        }
    }

    public static void main(String[] args) {
        due("the class is public and final",
                Modifier.isPublic(LeaseDesk.class.getModifiers()) && Modifier.isFinal(LeaseDesk.class.getModifiers()));
        Set<String> shown = shownMembers();
        due("shown is " + shown + ", due is " + FACE, shown.equals(FACE));
        Set<String> taken = publicMethodNames();
        lookAt(LeaseDesk.class, taken);
        Class<?>[] inside = LeaseDesk.class.getDeclaredClasses();
        due("over twelve classes", inside.length < 12);
        for (Class<?> type : inside) {
            due(type.getName() + " is not static", Modifier.isStatic(type.getModifiers()));
            due(type.getName() + " is public or protected",
                    (type.getModifiers() & (Modifier.PUBLIC | Modifier.PROTECTED)) == 0);
            lookAt(type, taken);
        }
        System.out.println(wrong + " faults of the face");
        if (wrong != 0) {
            System.exit(1);
        }
    }
}
