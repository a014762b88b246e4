import java.lang.reflect.InvocationTargetException;
import java.lang.reflect.Method;
import java.util.HashMap;
import java.util.Map;

/**
 * Runs of calls, written as lines: "name argument .. = answer", or "name argument .. ! IOOBE" (or
 * IAE, ISE) for a call that throws. The very class is asked for: what the machine itself throws, an
 * ArrayIndexOutOfBoundsException say, is not what the document names. A call that throws must leave
 * all inside as it was. "x5: " ahead of a line has it five times; an answer "_" is not looked at. What
 * is behind "#" is a remark.
 */
final class Script {
    private static final Map<String, Method> FACE = new HashMap<>();
    private static final Map<String, String> THROWN = Map.of("IOOBE", "java.lang.IndexOutOfBoundsException",
        "IAE", "java.lang.IllegalArgumentException", "ISE", "java.lang.IllegalStateException");
    private static final int MOST_CALLS = 512;
    private static int wrong;
    private static int calls;

    static {
        for (Method m : Pensionledger.class.getDeclaredMethods()) {
            if (java.lang.reflect.Modifier.isPublic(m.getModifiers())) {
                FACE.put(m.getName(), m);
            }
        }
    }

    private Script() {
    }

    /** All lines of one run go to one new ledger; tells which. */
    static Pensionledger run(String title, String lines) {
        Pensionledger ledger = new Pensionledger();
        int ahead = calls;
        for (String line : lines.split("\n")) {
            String call = line.replaceAll("#.*", "").trim();
            int times = 1;
            if (call.matches("x\\d+: .*")) {
                times = Integer.parseInt(call.substring(1, call.indexOf(':')));
                call = call.substring(call.indexOf(':') + 1).trim();
            }
            for (int i = 0; i < times && !call.isEmpty(); i++) {
                check(title, ledger, call);
            }
        }
        if (calls - ahead > MOST_CALLS) {
            wrong++;
            System.out.println(title + ": more calls than an object is used for");
        }
        return ledger;
    }

    private static void check(String title, Pensionledger ledger, String call) {
        calls++;
        boolean thrown = call.contains(" ! ");
        String[] sides = call.split(thrown ? " ! " : " = ?", 2);
        String due = thrown ? "throws " + THROWN.get(sides[1].trim()) : sides[1];
        String before = thrown ? Inside.of(ledger) : "";
        String got = answer(ledger, sides[0].trim().split(" +"));
        if (!due.equals("_") && !due.equals(got)) {
            wrong++;
            System.out.println(title + ": " + sides[0] + " answered " + got + ", due is " + due);
        }
        if (thrown && !before.equals(Inside.of(ledger))) {
            wrong++;
            System.out.println(title + ": " + sides[0] + " was refused, and changed something");
        }
    }

    static String answer(Pensionledger ledger, String[] words) {
        Method method = FACE.get(words[0]);
        Class<?>[] kinds = method.getParameterTypes();
        Object[] given = new Object[kinds.length];
        for (int i = 0; i < given.length; i++) {
            given[i] = kinds[i] == boolean.class ? (Object) Boolean.valueOf(words[i + 1]) : Integer.valueOf(words[i + 1]);
        }
        try {
            return String.valueOf(method.invoke(ledger, given));
        } catch (InvocationTargetException e) {
            return "throws " + e.getCause().getClass().getName();
        } catch (IllegalAccessException e) {
            throw new IllegalStateException(e);
        }
    }

    /** To be called last: ends with 1, if an answer was wrong. */
    static void end() {
        System.out.println(calls + " calls, " + wrong + " wrong");
        if (wrong != 0 || calls == 0) {
            System.exit(1);
        }
    }
}
