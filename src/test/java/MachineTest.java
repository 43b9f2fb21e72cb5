import java.lang.reflect.InvocationTargetException;
import java.lang.reflect.Method;
import java.lang.reflect.Modifier;
import java.util.Arrays;
import java.util.Comparator;
import java.util.Set;
import java.util.TreeSet;

/**
 * Rules 6 and 7 of the language: whatever a call is given, in whatever state, it throws what the face
 * lists for it alone, and by a throw statement. The numbers come from a fixed sequence, so that each
 * run of the test makes the same calls.
 */
public final class MachineTest {
    private static final int RUNS = 2000;
    /** One less than the document speaks of: isSound() comes last. */
    private static final int CALLS = 511;
    /** The ends of all ranges of the document, what lies next to them, and what wraps around as it is multiplied. */
    private static final int[] NUMBERS = {
        Integer.MIN_VALUE, Integer.MIN_VALUE + 1, -1 << 29, -1 << 26, -10000, -304, -64, -8, -2, -1, 0, 1, 2, 3, 4, 5, 6,
        7, 8, 9, 10, 16, 19, 20, 39, 40, 41, 63, 64, 191, 192, 247, 248, 303, 304, 9999, 10000, 1 << 26, 1 << 29,
        1 << 30, 0x10000001, 0x20000000 + 3, Integer.MAX_VALUE - 1, Integer.MAX_VALUE,
    };
    private static final String KINDS = "cxgwm";
    /** With these alone a run comes to the last version, or to the last note. */
    private static final Set<String> MERGING = Set.of("rule", "open", "paint", "merge", "undo");
    private static final Set<String> NOTING = Set.of("device", "note", "ahead");

    private final Method[] calls = callsOfTheFace(null);
    private final Method[][] choices = {calls, calls, callsOfTheFace(MERGING), callsOfTheFace(NOTING)};
    private final TreeSet<String> thrown = new TreeSet<>();
    private long seed = 1;

    public static void main(String[] args) throws IllegalAccessException {
        MachineTest test = new MachineTest();
        for (int run = 0; run < RUNS; run++) {
            CindermapStore store = new CindermapStore();
            // In some runs nearly all numbers are in range, so that they go far; in others hardly any.
            int strange = 2 << run % 8;
            Method[] chosen = test.choices[run / 8 % 4];
            for (int call = 0; call < CALLS; call++) {
                test.call(store, test.chosenOf(chosen), strange);
            }
            Check.is("isSound() behind the run " + run, store.isSound(), true);
        }
        test.allWasThrown();
        Check.end();
    }

    /** Those of the names, or all. */
    private static Method[] callsOfTheFace(Set<String> names) {
        return Arrays.stream(CindermapStore.class.getDeclaredMethods())
            .filter(method -> Modifier.isPublic(method.getModifiers()))
            .filter(method -> names == null || names.contains(method.getName()))
            .sorted(Comparator.comparing(Method::getName)).toArray(Method[]::new);
    }

    private int number(int bound) {
        seed = seed * 6364136223846793005L + 1442695040888963407L;
        return (int) ((seed >>> 33) % bound);
    }

    /** Fewer rules than other calls: a map of many hardly changes any more. */
    private Method chosenOf(Method[] choice) {
        Method made = choice[number(choice.length)];
        return made.getName().equals("rule") && number(2) > 0 ? chosenOf(choice) : made;
    }

    private Object argument(Class<?> type, int strange) {
        boolean isStrange = number(strange) == 0;
        if (type == boolean.class) {
            return number(2) == 0;
        }
        if (type == char.class) {
            return isStrange ? (char) number(1 << 16) : KINDS.charAt(number(KINDS.length()));
        }
        return isStrange ? NUMBERS[number(NUMBERS.length)] : number(3);
    }

    private void call(CindermapStore store, Method made, int strange) throws IllegalAccessException {
        Object[] arguments = Arrays.stream(made.getParameterTypes()).map(type -> argument(type, strange)).toArray();
        try {
            made.invoke(store, arguments);
        } catch (InvocationTargetException e) {
            judge(made.getName() + Arrays.toString(arguments), made, e.getCause());
        }
    }

    /** What the machine throws bears a message, or comes from its library. */
    private void judge(String told, Method made, Throwable cause) {
        boolean isListed = Arrays.asList(made.getExceptionTypes()).contains(cause.getClass());
        boolean isOwn = cause.getStackTrace().length > 0
            && cause.getStackTrace()[0].getClassName().startsWith("CindermapStore");
        Check.is(told + " threw " + cause + "; whether that is listed", isListed, true);
        Check.is(told + " threw " + cause + "; whether the class threw it", isOwn && cause.getMessage() == null, true);
        thrown.add(made.getName() + " " + cause.getClass().getSimpleName());
    }

    /** So that the runs are no weaker than they seem: they meet each exception that the face lists. */
    private void allWasThrown() {
        for (Method made : calls) {
            for (Class<?> listed : made.getExceptionTypes()) {
                String told = made.getName() + " " + listed.getSimpleName();
                Check.is("whether some call met: " + told, thrown.contains(told), true);
            }
        }
    }
}
