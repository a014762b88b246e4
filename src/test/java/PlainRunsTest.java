import java.lang.reflect.InvocationTargetException;
import java.lang.reflect.Method;
import java.util.HashMap;
import java.util.Map;

/**
 * Asks Pensionledger and PlainLedger the same, in many runs of calls, and compares every answer and
 * every exception (its very class: what the machine itself throws is a class below the one that is due).
 * Arguments: how many runs, and the number of the first one.
 */
public final class PlainRunsTest {
    /** A letter an argument: see argument(). */
    private static final String[] CALLS = {
        "member b", "spell m h f t p k", "spell m h f t p k", "unspell m n", "cut m n c", "death m x", "wage m h o w",
        "wage m h o w", "price y q", "price y q", "rule h d r e r", "terms h v a i i", "form h k j u", "tie h h z",
        "marry m m d", "divide g d s", "widows h s", "raise h l L", "bridge h B a", "lessen h o P", "annuity h A Y",
        "go m h o k", "payOut S", "interest i", "enter m h", "type T T T T T T", "undo", "knock", "has m h d",
        "time m h f t", "worked m h o", "yearPay m h y y", "base m h y", "earned m h d", "isOwn m h d",
        "factor m h o", "pension m h o", "face m h o", "kept m h o o", "given m m h o o", "widow m h",
        "level h y N", "ofClass h k o", "value m h o", "transferred m h h o", "lump m h o s", "best m h F G U",
        "wouldEarn m h f t p", "due S M", "paid S R", "ofStream S 7", "line m n", "ofMember m 4", "ofMarriage g 4",
        "ofHouse h 0", "then 8 m h d", "typed", "fault", "count 8", "isSound", "digest"};
    private static final int[] WILD = {-1, -2, Integer.MIN_VALUE, Integer.MAX_VALUE, 6000, 1200, 100, 101, -300, 301, 99999, 100000};

    // Such prices make the longest fractions.
    private static final int[] PRIMES = {9973, 9967, 9949, 9941, 9931, 9929, 9923, 9907, 9901, 9887, 9883, 9871};

    private static long seed;
    private static int before;
    private static final Map<String, Method> MINE = methodsOf(Pensionledger.class);
    private static final Map<String, Method> PLAIN = methodsOf(PlainLedger.class);
    private static final Map<String, int[]> SEEN = new HashMap<>();

    private static Map<String, Method> methodsOf(Class<?> face) {
        Map<String, Method> found = new HashMap<>();
        for (Method m : face.getDeclaredMethods()) {
            if (java.lang.reflect.Modifier.isPublic(m.getModifiers())) {
                found.put(m.getName(), m);
            }
        }
        return found;
    }

    private static int below(int many) {
        seed = seed * 6364136223846793005L + 1442695040888963407L;
        return (int) ((seed >>> 33) % many);
    }

    private static int from(int least, int most) {
        return least + below(most - least + 1);
    }

    private static int edge(int least, int most) {
        switch (below(6)) {
            case 0:
                return least;
            case 1:
                return most;
            default:
                return from(least, most);
        }
    }

    /** Wrong now and then, at the edges often; 'before' is the argument ahead of this one. */
    private int argument(char kind, int wildness) {
        if (below(100) < wildness) {
            return WILD[below(WILD.length)];
        }
        PlainLedger.State now = plain.s;
        switch (kind) {
            case 'b': return below(3) == 0 ? edge(0, 5999) : from(0, 600);
            case 'm': return lastMember = below(20) == 0 ? 3 : below(Math.max(1, now.who.size()));
            case 'h': return below(3);
            case 'f': return below(3) == 0 ? edge(0, 5999) : from(0, 40) * 60;
            case 't': return Math.min(5999, before + (below(3) == 0 ? below(6000) : from(1, 30) * 60 - 1));
            case 'd': return below(3) == 0 ? edge(0, 5999) : from(0, 100) * 60;
            case 'c': return inSpell();
            case 'x': return below(3) == 0 ? -1 : from(0, 5999);
            case 'p': return below(2) == 0 ? 100 : edge(1, 100);
            case 'k': return below(3);
            case 'n': return below(20) == 0 ? below(10) : below(Math.max(1, spells()));
            case 'o': return below(4) == 0 ? edge(0, 1199) : from(0, 200) * 6;
            case 'w': return edge(0, 9999);
            case 'y': return edge(0, 99);
            case 'q': return below(3) == 0 ? edge(1, 9999) : from(80, 160);
            case 'r': return edge(0, 50);
            case 'e': return below(2) == 0 ? from(0, 5) : edge(0, 60);
            case 'v': return below(2) == 0 ? from(0, 3) : edge(0, 20);
            case 'a': return edge(0, 1199);
            case 'i': return edge(0, 10);
            case 'j': return edge(1, 10);
            case 'u': return below(2) == 0 ? from(0, 3000) : edge(0, 99999);
            case 'g': return below(20) == 0 ? below(4) : below(Math.max(1, now.marriages.size()));
            case 's': return edge(0, 100);
            case 'l': return edge(-10, 10);
            case 'L': return edge(0, 30);
            case 'B': return edge(0, 999);
            case 'P': return below(2) == 0 ? from(-100, 100) : edge(-300, 300);
            case 'A': return edge(0, 99);
            case 'Y': return edge(1, 40);
            case 'S': return below(20) == 0 ? below(6) : below(Math.max(1, now.streams.size()));
            case 'R': return before >= 0 && before < now.paid.size() ? below(now.paid.get(before).size() + 1) : below(24);
            case '4': return below(20) == 0 ? 5 : below(5);
            case '7': return below(20) == 0 ? 8 : below(8);
            case '8': return below(20) == 0 ? 9 : below(9);
            case '0': return below(20) == 0 ? 11 : below(11);
            case 'T': return below(4) == 0 ? -1 : from(-1, 16);
            case 'N': return before + from(0, 21);
            case 'F': return from(0, 1199);
            case 'G': return Math.min(1200, before + from(0, 37));
            case 'U': return before + from(-1, 400);
            case 'M': return before >= 0 && before < now.streams.size() ? now.streams.get(before)[2] + from(-1, 121) : from(0, 1199);
            default: return below(2);
        }
    }

    private int lastMember;

    private int spells() {
        PlainLedger.State now = plain.s;
        return lastMember >= 0 && lastMember < now.who.size() ? now.who.get(lastMember).spells.size() : 0;
    }

    /** A day of the spell that was named just ahead of it, or one beside it. */
    private int inSpell() {
        if (before < 0 || before >= spells()) {
            return from(0, 5999);
        }
        int[] spell = plain.s.who.get(lastMember).spells.get(before);
        return below(4) == 0 ? spell[1 + below(2)] + from(0, 1) : from(spell[1], spell[2]);
    }

    private Object[] arguments(String[] call, int wildness) {
        Object[] given = new Object[call.length - 1];
        for (int i = 0; i < given.length; i++) {
            char kind = call[i + 1].charAt(0);
            int x = argument(kind, wildness);
            before = x;
            given[i] = kind == 'z' ? (Object) (x == 1) : (Object) x;
        }
        return given;
    }

    private static String answer(Map<String, Method> face, Object ledger, String name, Object[] given) {
        try {
            return String.valueOf(face.get(name).invoke(ledger, given));
        } catch (InvocationTargetException e) {
            return "throws " + e.getCause().getClass().getName();
        } catch (IllegalAccessException e) {
            throw new IllegalStateException(e);
        }
    }

    private final Pensionledger mine = new Pensionledger();
    private final PlainLedger plain = new PlainLedger();
    private final StringBuilder told = new StringBuilder();

    private String both(String name, Object... given) {
        String due = answer(PLAIN, plain, name, given);
        String got = answer(MINE, mine, name, given);
        told.append("  ").append(name).append(java.util.Arrays.toString(given)).append(" -> ").append(due).append('\n');
        int[] seen = SEEN.computeIfAbsent(name, x -> new int[2]);
        seen[due.startsWith("throws") ? 1 : 0]++;
        if (!got.equals(due)) {
            System.out.println(told + "answered " + got);
            return null;
        }
        return got;
    }

    /** A ledger in which something comes each month: else most random questions answer 0. */
    private boolean furnish() {
        boolean fine = true;
        int members = from(1, 4);
        for (int m = 0; m < members; m++) {
            fine &= both("member", from(0, 500)) != null;
            for (int h = 0; h < 3; h++) {
                int start = from(500, 1500);
                fine &= both("spell", m, h, start, start + from(1000, 3000), from(20, 100), 0) != null;
                fine &= both("wage", m, h, from(0, 100), from(1, 9999)) != null;
                fine &= both("wage", m, h, from(100, 900), from(1, 9999)) != null;
            }
        }
        boolean heavy = below(4) == 0;
        for (int i = heavy ? 12 : from(0, 12); i > 0; i--) {
            fine &= both("price", from(0, 99), heavy ? PRIMES[i - 1] : from(1, 9999)) != null;
        }
        for (int h = 0; heavy && h < 3; h++) {
            fine &= both("form", h, below(4) == 0 ? 0 : 1, 10, 99999) != null;
        }
        if (members > 1) {
            fine &= both("marry", 0, 1, from(0, 2000)) != null && both("divide", 0, from(2000, 4000), from(0, 100)) != null;
        }
        for (int m = 0; m < members; m++) {
            fine &= both("go", m, below(3), from(500, 1000), below(3)) != null;
        }
        return fine;
    }

    /** Types a line, with a fault now and then. */
    private boolean typeLine() {
        int from = argument('f', 0);
        before = from;
        String line = from + "-" + (below(6) == 0 ? from(0, 9999) : argument('t', 0)) + ":" + from(0, 110) + "wrg".charAt(below(3));
        boolean fine = both("type", 16, -1, -1, -1, -1, -1) != null;
        for (int i = 0; fine && i < line.length(); i++) {
            int sign = below(40) == 0 ? below(15) : "0123456789-:wrg".indexOf(line.charAt(i));
            fine = both("type", sign, below(40) == 0 ? 15 : -1, -1, -1, -1, -1) != null;
        }
        return fine && both("fault") != null;
    }

    private boolean run(int number) {
        seed = number * 7919L + 17;
        below(2);
        int wildness = new int[] {0, 2, 10}[below(3)];
        boolean fine = below(4) == 0 || furnish();
        int[] weights = new int[CALLS.length];
        int all = 0;
        for (int i = 0; i < weights.length; i++) {
            weights[i] = below(3) == 0 ? from(3, 12) : 1;
            weights[i] = CALLS[i].equals("digest") || CALLS[i].equals("isSound") ? 1 : weights[i];
            all += weights[i];
        }
        for (int n = from(20, 150); fine && n > 0; n--) {
            int pick = below(all);
            int i = 0;
            while (pick >= weights[i]) {
                pick -= weights[i];
                i++;
            }
            String[] call = CALLS[i].split(" ");
            if (call[0].equals("enter") && below(3) > 0) {
                fine = typeLine();
            }
            fine = fine && both(call[0], arguments(call, wildness)) != null;
            if (fine && call[0].equals("payOut") && below(2) == 0) {
                for (int k = from(1, 24); fine && k > 0; k--) {
                    fine = both("payOut", below(2)) != null;
                }
            }
        }
        return fine && both("isSound") != null && both("digest") != null;
    }

    public static void main(String[] given) {
        int runs = given.length > 0 ? Integer.parseInt(given[0]) : 300;
        int first = given.length > 1 ? Integer.parseInt(given[1]) : 1;
        for (int n = first; n < first + runs; n++) {
            if (!new PlainRunsTest().run(n)) {
                System.out.println("run " + n + " went apart");
                System.exit(1);
            }
        }
        if (given.length > 0) {
            SEEN.forEach((name, seen) -> System.out.println(name + " " + seen[0] + " answers, " + seen[1] + " throws"));
        }
        System.out.println(runs + " runs went alike");
    }
}
