import java.lang.reflect.InvocationTargetException;
import java.lang.reflect.Method;
import java.util.ArrayList;
import java.util.Arrays;
import java.util.HashMap;
import java.util.List;
import java.util.Map;

/**
 * Every call of the face, with every two of its arguments just inside and just outside of what they may be,
 * asked of Pensionledger and of PlainLedger: in an empty ledger, in one with a few things, and in one in
 * which there are as many of everything as there can be. So each exception meets each other one.
 */
public final class ArgumentsTest {
    /** A letter an argument: see EDGES. */
    private static final String[] CALLS = {
        "member d", "spell m h d d p k", "unspell m n", "cut m n d", "death m d", "wage m h o w", "price y q", "rule h d r e r",
        "terms h v o i i", "form h k j u", "tie h h z", "marry m m d", "divide g d s", "widows h s", "raise h l L", "bridge h B o",
        "lessen h o P", "annuity h y Y", "go m h o k", "payOut S", "interest i", "enter m h", "type T T T T T T", "undo", "knock",
        "has m h d", "time m h d d", "worked m h o", "yearPay m h y y", "base m h y", "earned m h d", "isOwn m h d", "factor m h o",
        "pension m h o", "face m h o", "kept m h o o", "given m m h o o", "widow m h", "level h y y", "ofClass h k o", "value m h o",
        "transferred m h h o", "lump m h o s", "best m h o o o", "wouldEarn m h d d p", "due S o", "paid S n", "ofStream S 7", "line m n",
        "ofMember m 4", "ofMarriage g 4", "ofHouse h 0", "then 8 m h d", "typed", "fault", "count 8"};

    /** An ordinary number ahead; then those at the edges. */
    private static final Map<Character, int[]> EDGES = new HashMap<>();

    static {
        row('m', 0, -1, 3, 4);
        row('h', 0, -1, 2, 3);
        row('d', 300, -1, 0, 4, 5, 6, 250, 251, 604, 605, 5999, 6000);
        row('p', 50, 0, 1, 100, 101);
        row('k', 0, -1, 2, 3);
        row('n', 0, -1, 9, 10, 23, 24);
        row('o', 130, -1, 0, 119, 120, 129, 166, 167, 240, 241, 250, 251, 1199, 1200);
        row('w', 7, -1, 0, 9999, 10000);
        row('y', 10, -1, 0, 30, 31, 99, 100);
        row('q', 90, 0, 1, 9999, 10000);
        row('r', 20, -1, 0, 50, 51);
        row('e', 30, -1, 0, 60, 61);
        row('v', 2, -1, 0, 20, 21);
        row('i', 3, -1, 0, 10, 11);
        row('j', 3, 0, 1, 10, 11);
        row('u', 700, -1, 0, 99999, 100000);
        row('z', 1, 0);
        row('g', 0, -1, 3, 4);
        row('s', 50, -1, 0, 100, 101);
        row('l', 0, -11, -10, 30, 31);
        row('L', 5, -1, 0, 30, 31);
        row('B', 9, -1, 0, 999, 1000);
        row('P', 5, -301, -300, 300, 301);
        row('Y', 20, 0, 1, 40, 41);
        row('S', 0, -1, 5, 6);
        row('T', -1, -2, 0, 14, 15, 16, 17);
        row('4', 2, -1, 0, 4, 5);
        row('7', 2, -1, 0, 7, 8);
        row('8', 2, -1, 0, 8, 9);
        row('0', 2, -1, 0, 10, 11);
    }

    private static void row(char kind, int... numbers) {
        int[] row = kind == 'z' ? numbers : Arrays.copyOf(numbers, numbers.length + 2);
        if (kind != 'z') {
            row[numbers.length] = Integer.MIN_VALUE;
            row[numbers.length + 1] = Integer.MAX_VALUE;
        }
        EDGES.put(kind, row);
    }

    private static final String FEW = """
            member 5 = 0
            member 200 = 1
            spell 0 0 5 604 100 0 = 0
            spell 0 1 300 400 50 1 = 1
            marry 0 1 250 = 0
            go 0 0 130 1 = 0
            type 9 10 9 11 9 12 = 6
            """;

    private static final Map<String, Method> MINE = methodsOf(Pensionledger.class);
    private static final Map<String, Method> PLAIN = methodsOf(PlainLedger.class);
    private static final int MOST_CALLS = 512;

    private final String start;
    private Pensionledger mine;
    private PlainLedger plain;
    private int calls;
    private static int compared;

    private ArgumentsTest(String start) {
        this.start = start;
    }

    private static Map<String, Method> methodsOf(Class<?> face) {
        Map<String, Method> found = new HashMap<>();
        for (Method m : face.getDeclaredMethods()) {
            if (java.lang.reflect.Modifier.isPublic(m.getModifiers())) {
                found.put(m.getName(), m);
            }
        }
        return found;
    }

    private static String answer(Map<String, Method> face, Object ledger, String name, int[] given) {
        Method method = face.get(name);
        Object[] boxed = new Object[given.length];
        for (int i = 0; i < given.length; i++) {
            boxed[i] = method.getParameterTypes()[i] == boolean.class ? (Object) (given[i] == 1) : (Object) given[i];
        }
        try {
            return String.valueOf(method.invoke(ledger, boxed));
        } catch (InvocationTargetException e) {
            return "throws " + e.getCause().getClass().getName();
        } catch (IllegalAccessException e) {
            throw new IllegalStateException(e);
        }
    }

    private String both(String name, int... given) {
        calls++;
        compared++;
        String due = answer(PLAIN, plain, name, given);
        String got = answer(MINE, mine, name, given);
        if (!got.equals(due)) {
            System.out.println("behind\n" + start + name + Arrays.toString(given) + " answered " + got + ", due is " + due);
            System.exit(1);
        }
        return got;
    }

    /** Two new ledgers, in which the same was told. */
    private void renew() {
        mine = new Pensionledger();
        plain = new PlainLedger();
        calls = 0;
        for (String line : start.split("\n")) {
            String call = line.replaceAll("#.*", "").replaceAll("[=!].*", "").trim();
            int times = call.startsWith("x") ? Integer.parseInt(call.substring(1, call.indexOf(':'))) : 1;
            String[] words = call.substring(call.indexOf(':') + 1).trim().split(" +");
            for (int i = 0; i < times && !call.isEmpty(); i++) {
                both(words[0], Arrays.stream(words).skip(1).mapToInt(w -> w.equals("true") ? 1 : w.equals("false") ? 0 : Integer.parseInt(w)).toArray());
            }
        }
    }

    /** Asks once; what was changed by it is undone, so that the next one meets the same. */
    private void ask(String name, int[] given) {
        if (calls > MOST_CALLS - 8) {
            renew();
        }
        String could = both("count", 3);
        String typed = both("typed");
        both(name, given);
        if (name.equals("undo")) {
            renew();
        } else if (!both("count", 3).equals(could)) {
            both("undo");
        }
        if (!both("typed").equals(typed)) {
            typeAgain(typed);
        }
    }

    private void typeAgain(String typed) {
        both("type", 16, -1, -1, -1, -1, -1);
        for (int i = 0; i < typed.length(); i += 6) {
            int[] signs = new int[6];
            Arrays.fill(signs, -1);
            for (int k = 0; k < 6 && i + k < typed.length(); k++) {
                signs[k] = "0123456789-:wrg".indexOf(typed.charAt(i + k));
            }
            both("type", signs);
        }
    }

    private static List<int[]> argumentsOf(String kinds) {
        List<int[]> found = new ArrayList<>();
        int[] ordinary = new int[kinds.length()];
        for (int i = 0; i < ordinary.length; i++) {
            ordinary[i] = EDGES.get(kinds.charAt(i))[0];
        }
        found.add(ordinary);
        for (int i = 0; i < ordinary.length; i++) {
            for (int j = i; j < ordinary.length; j++) {
                for (int first : EDGES.get(kinds.charAt(i))) {
                    for (int second : EDGES.get(kinds.charAt(j))) {
                        int[] given = ordinary.clone();
                        given[i] = first;
                        given[j] = second;
                        if (i != j || first == second) {
                            found.add(given);
                        }
                    }
                }
            }
        }
        return found;
    }

    private void sweep() {
        renew();
        if (both("count", 3).equals("8")) {
            System.out.println("in this ledger a change would not show in how many can be undone:\n" + start);
            System.exit(1);
        }
        for (String call : CALLS) {
            String[] words = call.split(" ");
            for (int[] given : argumentsOf(call.substring(words[0].length()).replace(" ", ""))) {
                ask(words[0], given);
            }
            both("digest");
        }
    }

    public static void main(String[] none) {
        if (CALLS.length != MINE.size() - 2) {
            System.out.println("a call is missing");
            System.exit(1);
        }
        new ArgumentsTest("").sweep();
        new ArgumentsTest(FEW).sweep();
        new ArgumentsTest(EdgesOfWords.FULL + "interest 1 = 0\nundo = 7\n").sweep();
        System.out.println(compared + " answers alike");
    }
}
