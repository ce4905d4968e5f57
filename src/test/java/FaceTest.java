import java.lang.reflect.Constructor;
import java.lang.reflect.Field;
import java.lang.reflect.Member;
import java.lang.reflect.Method;
import java.lang.reflect.Modifier;
import java.nio.charset.StandardCharsets;
import java.nio.file.Files;
import java.nio.file.Path;
import java.util.Arrays;
import java.util.TreeSet;
import java.util.regex.Matcher;
import java.util.regex.Pattern;

/** The public face as the document has it, no more and no less; and the rules of LANGUAGE.md that can be seen from outside. */
public final class FaceTest {
    private static final Due DUE = new Due("FaceTest");
    private static final String FACE = "act(int,int,int) ask(int) best(int,int) cheat(int,int) copy(int,int,int,int,int) "
        + "element(int,int) fault() find() fits() game(int,int,int,int) gameOf(int,int) holds(int) image() judge(int,int) "
        + "left(int) load(int,int,int) move(int,int) moves(int) over(int) part(int,int) play(int,int) point(int,int) "
        + "price(int) restore() rival(int,int) rivals(int) row(int,int,int) rule(int) ruleOf(int,int) same(int,int) "
        + "says(int,int) set(int,int,long) show(int,int) status(int) sure(int,int) tie(int,int,int,boolean) tied(int,int) "
        + "tight() trace(int) turn(int) value(int,int) wide(int)";

    public static void main(String[] args) throws Exception {
        face();
        inside();
        source();
        DUE.end();
    }

    private static void face() {
        DUE.is("public and final", WhatGame.class.getModifiers(), Modifier.PUBLIC | Modifier.FINAL);
        TreeSet<String> found = new TreeSet<>();
        TreeSet<String> privates = new TreeSet<>();
        for (Method method : WhatGame.class.getDeclaredMethods()) {
            if (method.isSynthetic()) continue;
            if (Modifier.isPrivate(method.getModifiers())) {
                privates.add(method.getName());
                continue;
            }
            DUE.is(method.getName() + " is public alone", method.getModifiers(), Modifier.PUBLIC);
            boolean isLong = method.getName().equals("element");
            DUE.is(method.getName() + " answers", method.getReturnType() == (isLong ? long.class : int.class) ? 1 : 0, 1);
            found.add(told(method));
        }
        TreeSet<String> due = new TreeSet<>(Arrays.asList(FACE.split(" ")));
        DUE.is("the face " + found, found.equals(due) ? 1 : 0, 1);
        for (String name : privates) {
            DUE.is("a private one named " + name, due.stream().anyMatch(one -> one.startsWith(name + "(")) ? 1 : 0, 0);
        }
        DUE.is("constructors", WhatGame.class.getDeclaredConstructors().length, 1);
        DUE.is("constructor", WhatGame.class.getConstructors()[0].getParameterCount(), 0);
        for (Field field : WhatGame.class.getDeclaredFields()) {
            boolean isFace = field.getName().equals("NONE");
            DUE.is(field.getName(), Modifier.isPrivate(field.getModifiers()) ? 0 : 1, isFace ? 1 : 0);
            if (Modifier.isStatic(field.getModifiers())) DUE.is(field.getName() + " final", isFinal(field), 1);
        }
    }

    private static String told(Method method) {
        StringBuilder told = new StringBuilder(method.getName()).append("(");
        for (Class<?> type : method.getParameterTypes()) told.append(told.charAt(told.length() - 1) == '(' ? "" : ",").append(type);
        return told.append(")").toString();
    }

    private static int isFinal(Member member) {
        return Modifier.isFinal(member.getModifiers()) ? 1 : 0;
    }

    private static void inside() {
        for (Class<?> one : WhatGame.class.getDeclaredClasses()) {
            DUE.is(one.getName() + " static", Modifier.isStatic(one.getModifiers()) ? 1 : 0, 1);
            DUE.is(one.getName() + " not public", one.getModifiers() & (Modifier.PUBLIC | Modifier.PROTECTED), 0);
            int own = 0;
            for (Field field : one.getDeclaredFields()) {
                if (!Modifier.isStatic(field.getModifiers())) own++;
                else DUE.is(field.getName() + " final", isFinal(field), 1);
            }
            DUE.is(one.getName() + " has few fields", own <= 20 ? 1 : 0, 1);
            for (Method method : one.getDeclaredMethods()) {
                boolean isFace = (" " + FACE).contains(" " + method.getName() + "(");
                DUE.is(one.getName() + " has a method named " + method.getName(), isFace ? 1 : 0, 0);
            }
            for (Constructor<?> made : one.getDeclaredConstructors()) {
                DUE.is(one.getName() + " takes few", made.getParameterCount() <= 7 ? 1 : 0, 1);
            }
        }
    }

    private static void source() throws Exception {
        String source = Files.readString(Path.of("src/main/java/WhatGame.java"), StandardCharsets.ISO_8859_1);
        DUE.is("signs", source.chars().filter(sign -> sign > 126 || sign < 32 && sign != '\n').count(), 0);
        String code = source.replaceAll("(?s)/\\*.*?\\*/", "").replaceAll("//[^\n]*", "").replaceAll("\"[^\"]*\"", "\"\"");
        String[] none = {"\\bthrow", "\\btry\\b", "\\bcatch\\b", "\\bsynchronized\\b", "\\bassert\\b", "->", "::", "Exact\\b",
            "\\bpackage\\b", "\\bvar\\b", "@", "\\bwhile\\b", "System\\.(?!arraycopy)", "\" *\\+", "\\+ *\"", "\\.equals", "hashCode"};
        for (String pattern : none) {
            Matcher matcher = Pattern.compile(pattern).matcher(code);
            DUE.is(pattern, matcher.find() ? 1 : 0, 0);
        }
        Matcher imports = Pattern.compile("import ([^;]*);").matcher(code);
        while (imports.find()) DUE.is(imports.group(1), imports.group(1).equals("java.util.Arrays") ? 1 : 0, 1);
        int line = 0;
        int begun = 0;
        for (String text : source.split("\n")) {
            line++;
            if (text.matches(" {4,8}[a-zA-Z].*\\) \\{")) begun = line;
            if (text.matches(" {4,8}\\}")) DUE.is("a method's lines at " + line, line - begun <= 60 ? 0 : 1, 0);
            if (text.matches(" {4}\\}")) begun = line;
        }
    }
}
