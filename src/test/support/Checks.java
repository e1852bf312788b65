import java.lang.reflect.InvocationTargetException;
import java.lang.reflect.Method;
import java.util.Arrays;
import java.util.Comparator;

/** What the tests of the project have in common: the document's numbers, and ways to ask for an answer. */
abstract class Checks {
    static final int COUNTER = 0;
    static final int VAULT = 1;
    static final int CHAIN = 2;
    static final int BRACKET = 3;

    static final int GET = 0;
    static final int PUT = 1;
    static final int ADD = 2;
    static final int DIV = 3;
    static final int USE = 4;
    static final int WAKE = 5;

    static final int ARITHMETIC = 1;
    static final int INDEX = 2;
    static final int NULL = 3;
    static final int SHORT = 4;
    static final int FORWARD = 5;
    static final int DEEP = 6;
    static final int BODY = 7;
    static final int CLOSE = 8;
    static final int NO_METHOD = 9;
    static final int MONITOR = 10;

    static final int DONE = LeaseDesk.DONE;
    static final int REFUSED = LeaseDesk.REFUSED;
    static final int FULL = LeaseDesk.FULL;
    static final int GONE = LeaseDesk.GONE;
    static final int FAILED = LeaseDesk.FAILED;

    static final int LEAST = Integer.MIN_VALUE;
    static final int MOST = Integer.MAX_VALUE;
    static final long NONE_SUCH = -5000000000L;

    static String part = "";
    private static int wrong = 0;
    private static int looked = 0;

    static void due(String what, long got, long want) {
        looked++;
        if (got != want) {
            tellWrong(what + " answered " + got + ", due is " + want);
        }
    }

    static void same(String what, String got, String want) {
        looked++;
        if (!got.equals(want)) {
            tellWrong(what + ": now " + got + ", before " + want);
        }
    }

    private static void tellWrong(String what) {
        wrong++;
        System.out.println(part + ": " + what);
    }

    static long ab(int a, int b) {
        return ((long) a << 32) | (b & 0xFFFFFFFFL);
    }

    /** A desk with one object of each kind given, none of them held. */
    static LeaseDesk unheld(int... kinds) {
        LeaseDesk desk = new LeaseDesk();
        for (int i = 0; i < kinds.length; i++) {
            due("export", desk.export(kinds[i]), i);
        }
        return desk;
    }

    /** A desk with one object of each kind given, all leased by peer 0 with sequence 1 till 50. */
    static LeaseDesk deskWith(int... kinds) {
        LeaseDesk desk = unheld(kinds);
        for (int i = 0; i < kinds.length; i++) {
            due("lease", desk.lease(0, i, 1, 50), 50);
        }
        return desk;
    }

    private static String told(int object, int method, int a, int b) {
        return "call(0, " + object + ", " + method + ", a " + a + ", b " + b + ")";
    }

    static void gives(LeaseDesk desk, int object, int method, int a, int b, int want) {
        String told = told(object, method, a, b);
        due(told, desk.call(0, object, method, ab(a, b)), DONE);
        due("value after " + told, desk.value(), want);
        due("failure(0, 0) after " + told, desk.failure(0, 0), REFUSED);
    }

    static void fails(LeaseDesk desk, int object, int method, int a, int b, int... classesAndMessages) {
        String told = told(object, method, a, b);
        due(told, desk.call(0, object, method, ab(a, b)), FAILED);
        due("value after " + told, desk.value(), 0);
        int size = classesAndMessages.length / 2;
        for (int k = 0; k < size; k++) {
            due("class " + k + " after " + told, desk.failure(k, 0), classesAndMessages[2 * k]);
            due("message " + k + " after " + told, desk.failure(k, 1), classesAndMessages[2 * k + 1]);
        }
        due("class " + size + " after " + told, desk.failure(size, 0), REFUSED);
    }

    static void suppressedAre(LeaseDesk desk, int k, int... messages) {
        int size = messages.length;
        due("how many suppressed", desk.failure(k, 2), size);
        for (int j = 0; j < size; j++) {
            due("suppressed " + j, desk.suppressed(k, j), CLOSE);
            due("suppressedMessage " + j, desk.suppressedMessage(k, j), messages[j]);
        }
        due("suppressed " + size, desk.suppressed(k, size), REFUSED);
        due("suppressedMessage " + size, desk.suppressedMessage(k, size), NONE_SUCH);
    }

    static void isThere(LeaseDesk desk, int object, int kind) {
        due("kind of " + object, desk.object(object, 0), kind);
    }

    static void isGone(LeaseDesk desk, int object) {
        due("kind of " + object, desk.object(object, 0), REFUSED);
    }

    /** All that the looking calls tell; few enough of them that a desk can be asked several times. */
    static String stateOf(LeaseDesk desk) {
        StringBuilder state = new StringBuilder();
        for (int what = 0; what < 4; what++) {
            state.append(desk.count(what)).append(' ');
        }
        for (int name = 0; name < 6; name++) {
            state.append(desk.lookup(name)).append(' ');
        }
        for (int object = 0; object < 10; object++) {
            int kind = desk.object(object, 0);
            state.append("| ").append(kind).append(' ');
            for (int what = 1; kind >= 0 && what <= 5; what++) {
                state.append(desk.object(object, what)).append(' ');
            }
        }
        return state.append("| ").append(outcomeOf(desk)).toString();
    }

    static String outcomeOf(LeaseDesk desk) {
        StringBuilder outcome = new StringBuilder("value ").append(desk.value());
        for (int k = 0; k < 6 && desk.failure(k, 0) != REFUSED; k++) {
            outcome.append(" failure ").append(desk.failure(k, 0)).append(' ').append(desk.failure(k, 1));
            for (int j = 0; j < desk.failure(k, 2); j++) {
                outcome.append(" suppressed ").append(desk.suppressed(k, j));
                outcome.append(' ').append(desk.suppressedMessage(k, j));
            }
        }
        return outcome.toString();
    }

    /** Runs every method of the test that says a sentence; found by itself, so that none is forgotten. */
    static void runSentences(Class<?> test) {
        Method[] methods = test.getDeclaredMethods();
        Arrays.sort(methods, Comparator.comparing(Method::getName));
        int ran = 0;
        for (Method method : methods) {
            Says says = method.getAnnotation(Says.class);
            if (says != null) {
                part = method.getName() + " (\"" + says.value() + "\")";
                runSentence(method);
                ran++;
            }
        }
        part = test.getName();
        due("are there sentences", ran > 0 ? 1 : 0, 1);
        System.out.println(ran + " sentences");
    }

    private static void runSentence(Method method) {
        try {
            method.setAccessible(true);
            method.invoke(null);
        } catch (InvocationTargetException thrown) {
            tellWrong("threw " + thrown.getCause());
        } catch (IllegalAccessException closed) {
            tellWrong("cannot be run: " + closed);
        }
    }

    static void end() {
        System.out.println(wrong + " of " + looked + " answers are not as due");
        if (wrong != 0) {
            System.exit(1);
        }
    }
}
