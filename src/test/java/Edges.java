import java.io.IOException;
import java.nio.file.Files;
import java.nio.file.Path;
import java.util.ArrayList;
import java.util.HashSet;
import java.util.List;
import java.util.Map;
import java.util.Set;
import java.util.regex.Matcher;
import java.util.regex.Pattern;

/**
 * Runs that bear a sentence of ../shared/DOC.md as their title. What is quoted must stand there, in the
 * words of the description or under the promise; a sentence "Throws .." must be met by a refused call of
 * that very method; and in the end no sentence may be left without a run of its own.
 */
final class Edges {
    private static final Path DOC = Path.of("../shared/DOC.md");
    private static final Map<String, String> THROWN = Map.of("IndexOutOfBoundsException", "IOOBE",
        "IllegalArgumentException", "IAE", "IllegalStateException", "ISE");
    /** What names no edge and nothing that could be asked. */
    private static final Set<String> PLAIN = Set.of("## Description", "Whole numbers.",
        "The constructor and the methods follow, a promise each: the signature, then what it does.");

    private static final String WORDS;
    private static final String[] PROMISES;
    private static final Set<String> QUOTED = new HashSet<>();
    private static final List<String> MISSED = new ArrayList<>();

    static {
        try {
            String[] parts = Files.readString(DOC).split("(?m)^## Promise \\d+: ");
            WORDS = parts[0];
            parts[parts.length - 1] = parts[parts.length - 1].split("(?m)^## ")[0];
            PROMISES = parts;
        } catch (IOException e) {
            throw new IllegalStateException(e);
        }
    }

    private Edges() {
    }

    /** A run for a sentence of the description. */
    static void words(String sentence, String lines) {
        if (!WORDS.contains(sentence)) {
            MISSED.add("not in the description: " + sentence);
        }
        QUOTED.add(sentence);
        Script.run(sentence, lines);
    }

    /** A run for a sentence of a promise. */
    static void promise(int number, String sentence, String lines) {
        String said = PROMISES[number];
        Matcher thrown = Pattern.compile("Throws `(\\w+)` .*").matcher(sentence);
        if (!said.lines().anyMatch(line -> line.equals(sentence))) {
            MISSED.add("not a line of promise " + number + ": " + sentence);
        } else if (thrown.matches() && !lines.matches("(?s).*\\b" + nameOf(number) + "( [-\\w]+)* ! " + THROWN.get(thrown.group(1)) + "\\b.*")) {
            MISSED.add(nameOf(number) + " is not refused in the run of: " + sentence);
        }
        QUOTED.add(number + " " + sentence);
        Script.run("promise " + number + ", " + sentence, lines);
    }

    private static String nameOf(int number) {
        return PROMISES[number].lines().findFirst().orElse("");
    }

    /** Ends with 1, if a sentence was left out. */
    static void end() {
        for (String line : WORDS.substring(WORDS.indexOf("## Description")).split("\n")) {
            if (!line.isBlank() && !line.startsWith("==")) {
                for (String sentence : line.trim().split("(?<=\\.)(?<!\\.\\.) +(?=[A-Z0-9])")) {
                    needRun(sentence);
                }
            }
        }
        for (int number = 1; number < PROMISES.length; number++) {
            for (String line : PROMISES[number].split("\n")) {
                if (line.startsWith("Throws") && !QUOTED.contains(number + " " + line)) {
                    MISSED.add("promise " + number + " is without a run of its own: " + line);
                }
            }
        }
        MISSED.forEach(System.out::println);
        if (!MISSED.isEmpty() || PROMISES.length != 60) {
            System.exit(1);
        }
    }

    private static void needRun(String sentence) {
        if (!PLAIN.contains(sentence) && QUOTED.stream().noneMatch(q -> sentence.contains(q) || q.contains(sentence))) {
            MISSED.add("without a run of its own: " + sentence);
        }
    }
}
