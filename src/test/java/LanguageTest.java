import java.io.File;
import java.io.PrintWriter;
import java.io.StringWriter;
import java.lang.reflect.Field;
import java.lang.reflect.Method;
import java.lang.reflect.Modifier;
import java.util.Arrays;
import java.util.Set;
import java.util.TreeMap;
import java.util.TreeSet;
import java.util.regex.Matcher;
import java.util.regex.Pattern;
import java.util.spi.ToolProvider;

/** The rules of LANGUAGE.md that can be seen in the built classes, as javap tells them. */
public final class LanguageTest {
    private static final Due DUE = new Due("LanguageTest");
    private static final Set<String> LIBRARY = Set.of("java/lang/Object.<init>", "java/lang/Integer.bitCount",
        "java/lang/Math.max", "java/lang/Math.min", "java/lang/String.charAt", "java/lang/System.arraycopy",
        "java/util/Arrays.fill");
    /** What calls one another: looking ahead, n MOVES deep. */
    private static final Set<String> RECURSION = Set.of("WhatGame$Board.valueOf", "WhatGame$Board.bestOf");
    private static final int DEEPEST = 8;

    private static final TreeMap<String, TreeSet<String>> CALLS = new TreeMap<>();
    private static final TreeSet<String> RECURRING = new TreeSet<>();

    public static void main(String[] args) throws Exception {
        readCalls();
        library();
        depth();
        sizes();
        DUE.end();
    }

    private static void readCalls() throws Exception {
        File folder = new File(WhatGame.class.getProtectionDomain().getCodeSource().getLocation().toURI());
        for (String file : folder.list()) {
            if (!file.matches("WhatGame(\\$.*)?\\.class")) continue;
            StringWriter told = new StringWriter();
            ToolProvider javap = ToolProvider.findFirst("javap").orElseThrow();
            javap.run(new PrintWriter(told), new PrintWriter(told), "-c", "-p", new File(folder, file).getPath());
            readClass(file.replace(".class", ""), told.toString());
        }
    }

    private static void readClass(String name, String told) {
        Pattern begins = Pattern.compile("  \\S.*?([\\w$]+)\\(.*\\)( throws .*)?;");
        Pattern calls = Pattern.compile(".*: invoke.*// (?:Interface)?Method (?:([\\w$/]+)\\.)?\"?([\\w$<>]+)\"?:.*");
        String method = name + ".<clinit>";
        for (String line : told.split("\r?\n")) {
            Matcher begun = begins.matcher(line);
            Matcher called = calls.matcher(line);
            if (begun.matches()) {
                method = name + "." + (begun.group(1).equals(name) ? "<init>" : begun.group(1));
                CALLS.putIfAbsent(method, new TreeSet<>());
            } else if (called.matches()) {
                String of = called.group(1) == null ? name : called.group(1);
                CALLS.computeIfAbsent(method, none -> new TreeSet<>()).add(of + "." + called.group(2));
            } else if (line.contains(": invoke") || line.contains(": athrow")) {
                DUE.is("a lambda, or a throw: " + line, 1, 0);
            }
        }
    }

    /** Rule 4: the library, only what is listed; of it only what the class needs. */
    private static void library() {
        for (TreeSet<String> called : CALLS.values()) {
            for (String one : called) {
                boolean isKnown = LIBRARY.contains(one) || one.startsWith("WhatGame");
                DUE.is("the library's " + one, isKnown ? 1 : 0, 1);
            }
        }
    }

    /** Rules 8 and 11: calls that are no recursion go at most eight deep, and no recursion but looking ahead. */
    private static void depth() {
        DUE.is("methods are seen", CALLS.containsKey("WhatGame.find") && CALLS.size() > 100 ? 1 : 0, 1);
        for (String method : CALLS.keySet()) {
            int deep = deep(method, Set.of());
            DUE.is(method + " goes " + deep + " deep", deep <= DEEPEST ? 1 : 0, 1);
        }
        DUE.is("recursion " + RECURRING, RECURRING.equals(RECURSION) ? 1 : 0, 1);
    }

    private static int deep(String method, Set<String> open) {
        if (open.contains(method)) {
            RECURRING.add(method);
            return 0;
        }
        TreeSet<String> opened = new TreeSet<>(open);
        opened.add(method);
        int deepest = 0;
        for (String called : CALLS.getOrDefault(method, new TreeSet<>())) deepest = Math.max(deepest, deep(called, opened));
        return deepest + 1;
    }

    /** Rules 1, 2, 5, 11: few classes, few fields, few parameters; what is static is final. */
    private static void sizes() {
        Class<?>[] inside = WhatGame.class.getDeclaredClasses();
        DUE.is("classes", inside.length < 12 ? 1 : 0, 1);
        Class<?>[] all = Arrays.copyOf(inside, inside.length + 1);
        all[inside.length] = WhatGame.class;
        for (Class<?> one : all) {
            int own = 0;
            for (Field field : one.getDeclaredFields()) {
                if (!Modifier.isStatic(field.getModifiers())) own++;
                else DUE.is(field + " final", Modifier.isFinal(field.getModifiers()) ? 1 : 0, 1);
            }
            DUE.is(one.getName() + " has " + own + " fields", own <= 20 ? 1 : 0, 1);
            for (Method method : one.getDeclaredMethods()) {
                DUE.is(method + " takes few", method.getParameterCount() <= 7 ? 1 : 0, 1);
            }
        }
    }
}
