import java.io.File;
import java.io.IOException;
import java.io.PrintWriter;
import java.io.StringWriter;
import java.lang.reflect.Constructor;
import java.lang.reflect.Field;
import java.lang.reflect.Method;
import java.lang.reflect.Modifier;
import java.nio.file.Files;
import java.nio.file.Path;
import java.util.ArrayList;
import java.util.HashMap;
import java.util.HashSet;
import java.util.List;
import java.util.Map;
import java.util.Set;
import java.util.TreeMap;
import java.util.TreeSet;
import java.util.regex.Matcher;
import java.util.regex.Pattern;
import java.util.spi.ToolProvider;

/** What can be looked up of ../shared/LANGUAGE.md, and the face of ../shared/DOC.md, in the source and its bytecode. */
public final class LanguageTest {
    private static final Path SOURCE = Path.of("src/main/java/Pensionledger.java");
    private static final Path DOC = Path.of("../shared/DOC.md");
    private static final Pattern CALLED = Pattern.compile("invoke\\w+ .*// (?:Interface)?Method ([^ ]+)");
    private static final Set<String> LIBRARY = Set.of(
        "java/lang/Object.\"<init>\":()V", "java/lang/StringBuilder.\"<init>\":()V",
        "java/lang/StringBuilder.append:(C)Ljava/lang/StringBuilder;",
        "java/lang/StringBuilder.append:(I)Ljava/lang/StringBuilder;",
        "java/lang/StringBuilder.toString:()Ljava/lang/String;",
        "java/lang/String.charAt:(I)C", "java/lang/String.length:()I",
        "java/lang/IllegalArgumentException.\"<init>\":(Ljava/lang/String;)V",
        "java/lang/IllegalStateException.\"<init>\":(Ljava/lang/String;)V",
        "java/lang/IndexOutOfBoundsException.\"<init>\":(Ljava/lang/String;)V",
        "java/lang/Math.max:(II)I", "java/lang/Math.min:(II)I", "java/lang/Math.max:(JJ)J", "java/lang/Math.min:(JJ)J",
        "java/lang/Math.floorMod:(II)I", "java/lang/Math.floorDiv:(JJ)J", "java/lang/Integer.bitCount:(I)I",
        "java/lang/System.arraycopy:(Ljava/lang/Object;ILjava/lang/Object;II)V",
        "java/util/Arrays.fill:([II)V", "java/util/Arrays.fill:([JJ)V");

    private static int wrong;

    private static void need(boolean fine, String rule) {
        if (!fine) {
            wrong++;
            System.out.println("not kept: " + rule);
        }
    }

    public static void main(String[] none) throws IOException {
        List<Class<?>> classes = new ArrayList<>();
        classes.add(Pensionledger.class);
        classes.addAll(List.of(Pensionledger.class.getDeclaredClasses()));
        face();
        names(classes);
        sizes(classes);
        source(Files.readString(SOURCE));
        bytecode(classes);
        System.out.println(wrong == 0 ? "the language is kept to" : wrong + " rules are not kept");
        if (wrong != 0) {
            System.exit(1);
        }
    }

    /** Rule 1: just the face of the document. */
    private static void face() throws IOException {
        Set<String> due = new TreeSet<>();
        Matcher signature = Pattern.compile("(?m)^    public (?:(\\w+) )?(\\w+)\\((.*?)\\)(?: throws ([^;]*))?;").matcher(Files.readString(DOC));
        while (signature.find()) {
            String arguments = signature.group(3).replaceAll(" \\w+(,|$)", "$1");
            due.add(signature.group(1) + " " + signature.group(2) + "(" + arguments + ") " + signature.group(4));
        }
        Set<String> got = new TreeSet<>();
        for (Constructor<?> c : Pensionledger.class.getDeclaredConstructors()) {
            got.add("null Pensionledger(" + names(c.getParameterTypes()) + ") null");
        }
        for (Method m : Pensionledger.class.getDeclaredMethods()) {
            if (!Modifier.isPrivate(m.getModifiers())) {
                String thrown = m.getExceptionTypes().length == 0 ? null : names(m.getExceptionTypes());
                got.add(m.getReturnType().getSimpleName() + " " + m.getName() + "(" + names(m.getParameterTypes()) + ") " + thrown);
            }
        }
        need(due.size() == 59, "59 promises of the face, there are " + due.size());
        need(got.equals(due), "the face: " + got + "\nis due to be: " + due);
        for (Field f : Pensionledger.class.getDeclaredFields()) {
            need(Modifier.isPrivate(f.getModifiers()), "private field " + f);
        }
    }

    private static String names(Class<?>[] kinds) {
        StringBuilder all = new StringBuilder();
        for (Class<?> k : kinds) {
            all.append(all.length() == 0 ? "" : ", ").append(k.getSimpleName());
        }
        return all.toString();
    }

    /** Rules 1 and 5: no private method bears a public name; static fields are constants. */
    private static void names(List<Class<?>> classes) {
        Set<String> open = new HashSet<>();
        for (Method m : Pensionledger.class.getDeclaredMethods()) {
            if (Modifier.isPublic(m.getModifiers())) {
                open.add(m.getName());
            }
        }
        for (Class<?> c : classes) {
            need(c == Pensionledger.class || Modifier.isStatic(c.getModifiers()), "a static class: " + c);
            for (Method m : c.getDeclaredMethods()) {
                need(Modifier.isPublic(m.getModifiers()) || !open.contains(m.getName()), "a public name borne again: " + m);
            }
            for (Field f : c.getDeclaredFields()) {
                need(!Modifier.isStatic(f.getModifiers()) || Modifier.isFinal(f.getModifiers()), "a constant: " + f);
            }
        }
    }

    /** Rule 11: how many classes, fields and parameters. */
    private static void sizes(List<Class<?>> classes) {
        need(classes.size() <= 12, "at most twelve classes, there are " + classes.size());
        for (Class<?> c : classes) {
            int fields = 0;
            for (Field f : c.getDeclaredFields()) {
                fields += Modifier.isStatic(f.getModifiers()) ? 0 : 1;
            }
            need(fields <= 20, "at most twenty fields: " + c);
            for (Method m : c.getDeclaredMethods()) {
                need(m.getParameterCount() <= 7, "at most seven parameters: " + m);
            }
        }
    }

    /** Rules 3, 4, 6 and 11 as far as words show them. */
    private static void source(String text) {
        String code = text.replaceAll("(?s)/\\*.*?\\*/", "").replaceAll("//.*", "").replaceAll("\"[^\"]*\"", "\"\"");
        for (String word : new String[] {"->", "::", "\\btry\\b", "\\bcatch\\b", "\\bfinally\\b", "\\bassert\\b", "\\bsynchronized\\b",
            "static \\{", "\\bpackage\\b", "\\bprotected\\b", "Exact\\b", "\\bdouble\\b", "\\bfloat\\b", "\\bvar\\b"}) {
            need(!Pattern.compile(word).matcher(code).find(), "none of: " + word);
        }
        Matcher imports = Pattern.compile("import (.*);").matcher(code);
        while (imports.find()) {
            need(imports.group(1).equals("java.util.Arrays"), "no import of " + imports.group(1));
        }
        need(text.chars().allMatch(c -> c < 128), "plain signs alone");
        Matcher bodies = Pattern.compile("(?m)^(    |        )(?:private |static |public |final )*[\\w\\[\\]]+ ?\\w*\\([^;{]*\\{\n((?:\\1 .*\n|\n)*)\\1\\}\n").matcher(text);
        int methods = 0;
        while (bodies.find()) {
            methods++;
            need(bodies.group(2).split("\n").length <= 60, "a short method: " + bodies.group().split("\n")[0]);
        }
        need(methods > 150, "methods found: " + methods);
    }

    /** Rules 2, 4, 6, 8 and 11: what is called, and how deep. */
    private static void bytecode(List<Class<?>> classes) {
        Map<String, Set<String>> calls = new TreeMap<>();
        for (Class<?> c : classes) {
            File file = new File(c.getResource(c.getName() + ".class").getPath());
            StringWriter told = new StringWriter();
            int end = ToolProvider.findFirst("javap").orElseThrow().run(new PrintWriter(told), new PrintWriter(told), "-c", "-p", "-s", file.getPath());
            need(end == 0, "javap of " + c + ": " + told);
            need(!told.toString().contains("invokedynamic"), "no lambda, no joining by +: " + c);
            need(!told.toString().contains("Exception table"), "nothing caught: " + c);
            read(c.getName(), told.toString(), calls);
        }
        Map<String, Integer> depths = new HashMap<>();
        for (String method : calls.keySet()) {
            int depth = depth(method, calls, depths, new HashSet<>());
            need(depth <= 8, "at most eight deep: " + method + " goes " + depth);
            for (String called : calls.get(method)) {
                need(calls.containsKey(called) || LIBRARY.contains(called), "no call of " + called);
            }
        }
    }

    private static void read(String owner, String told, Map<String, Set<String>> calls) {
        Pattern head = Pattern.compile("^  (?:[\\w\\[\\]$.]+ )*([\\w$.]+)\\(.*\\).*;$");
        String name = null;
        Set<String> open = new TreeSet<>();
        for (String line : told.split("\n")) {
            Matcher method = head.matcher(line);
            Matcher called = CALLED.matcher(line);
            if (method.find()) {
                name = method.group(1).equals(owner) ? "\"<init>\"" : method.group(1);
            } else if (name != null && line.trim().startsWith("descriptor:")) {
                open = new TreeSet<>();
                calls.put(owner + "." + name + ":" + line.trim().substring(12), open);
                name = null;
            } else if (called.find()) {
                open.add(called.group(1).contains(".") ? called.group(1) : owner + "." + called.group(1));
            }
        }
    }

    private static int depth(String method, Map<String, Set<String>> calls, Map<String, Integer> known, Set<String> open) {
        if (known.containsKey(method)) {
            return known.get(method);
        }
        need(open.add(method), "no recursion: " + method);
        int deepest = 0;
        for (String called : calls.get(method)) {
            if (calls.containsKey(called) && !open.contains(called)) {
                deepest = Math.max(deepest, depth(called, calls, known, open));
            } else {
                need(!open.contains(called), "no recursion: " + called);
            }
        }
        open.remove(method);
        known.put(method, deepest + 1);
        return deepest + 1;
    }
}
