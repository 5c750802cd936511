import java.io.IOException;
import java.lang.reflect.Constructor;
import java.lang.reflect.Field;
import java.lang.reflect.Method;
import java.lang.reflect.Modifier;
import java.nio.file.Files;
import java.nio.file.Path;
import java.util.List;
import java.util.Set;
import java.util.TreeSet;
import java.util.regex.Matcher;
import java.util.regex.Pattern;

/** The face of the class, and those rules of LANGUAGE.md that can be seen without running anything. */
public final class LanguageTest {
    private static final Checks C = new Checks();
    private static final Set<String> FACE = Set.of("boolean tilt(int)", "int feed(int, int, int, int, int)", "int law(int)",
        "int plan(int, int)", "int orders(int)", "int days(int)", "int tried(int, int)", "int sideIs(int, int)",
        "int archIs(int, int, int)", "int touches(int, int)", "int ahead(int)", "int beyond(int, int)",
        "int even(int, int)", "int inARow()", "int ball(int, int, int, int, int)", "int leastSpeed(int, int, int, int)",
        "int piles(int, int, int)", "int lamps(int, int, int)", "int claims(int, int)", "int rowed(int)",
        "int wed(int, int)", "int changes(int)", "int dialect(int, int, int)", "int owed(int, int)", "boolean seed(int)",
        "int keep()", "boolean undo()", "int check()", "int count(int)");
    private static final List<String> FORBIDDEN = List.of("\\bthrow\\b", "\\btry\\b", "\\bcatch\\b", "\\bsynchronized\\b",
        "\\bassert\\b", "->", "::", "\\bimport\\b", "\\bpackage\\b", "\\bnull\\b", "\\bfinally\\b", "\\bnew int\\[[^\\]]*\\]\\[",
        "\\bwhile\\b", "\\bfloat\\b", "\\bdouble\\b", "\"", "Exact\\b", "\\bprotected\\b", "\\bstatic \\{", "hashCode|equals\\(");

    public static void main(String[] args) throws IOException {
        face();
        inside();
        source();
        C.end("LanguageTest");
    }

    private static void face() {
        Class<?> c = MiddleBridge.class;
        C.due("public and final", c.getModifiers(), Modifier.PUBLIC | Modifier.FINAL);
        Set<String> told = new TreeSet<>();
        for (Method m : c.getDeclaredMethods()) {
            if (!Modifier.isPrivate(m.getModifiers())) {
                C.due(m + " is only public", m.getModifiers(), Modifier.PUBLIC);
                String parameters = java.util.Arrays.toString(m.getParameterTypes());
                told.add(m.getReturnType() + " " + m.getName() + "(" + parameters.substring(1, parameters.length() - 1) + ")");
            }
        }
        C.due("the methods of the face: " + told, told.equals(new TreeSet<>(FACE)), true);
        for (Field f : c.getDeclaredFields()) {
            boolean none = f.getName().equals("NONE");
            C.due(f + " is open", !Modifier.isPrivate(f.getModifiers()), none);
        }
        C.due("constructors", c.getDeclaredConstructors().length, 1);
        C.due("the constructor is public", c.getDeclaredConstructors()[0].getModifiers(), Modifier.PUBLIC);
    }

    private static void inside() {
        Set<String> names = new TreeSet<>();
        for (Method m : MiddleBridge.class.getDeclaredMethods()) {
            if (!Modifier.isPrivate(m.getModifiers())) {
                names.add(m.getName());
            }
        }
        Class<?>[] inside = MiddleBridge.class.getDeclaredClasses();
        C.due("at most twelve classes", inside.length <= 11, true);
        for (Class<?> c : inside) {
            C.due(c + " is private, static and final", c.getModifiers(), Modifier.PRIVATE | Modifier.STATIC | Modifier.FINAL);
            for (Method m : c.getDeclaredMethods()) {
                C.due(m + " is private", Modifier.isPrivate(m.getModifiers()), true);
                C.due(m + " bears a public name", names.contains(m.getName()), false);
                C.due(m + " takes at most seven", m.getParameterCount() <= 7, true);
            }
            for (Constructor<?> k : c.getDeclaredConstructors()) {
                C.due(k + " is private", Modifier.isPrivate(k.getModifiers()), true);
            }
            fields(c);
        }
        fields(MiddleBridge.class);
        for (Method m : MiddleBridge.class.getDeclaredMethods()) {
            if (Modifier.isPrivate(m.getModifiers())) {
                C.due(m + " bears a public name", names.contains(m.getName()), false);
            }
        }
    }

    private static void fields(Class<?> c) {
        int many = 0;
        for (Field f : c.getDeclaredFields()) {
            if (Modifier.isStatic(f.getModifiers())) {
                C.due(f + " is final", Modifier.isFinal(f.getModifiers()), true);
                C.due(f + " is a number", f.getType() == int.class, true);
            } else {
                many++;
            }
        }
        C.due(c + " has at most twenty fields", many <= 20, true);
    }

    private static void source() throws IOException {
        String all = Files.readString(Path.of("src/main/java/MiddleBridge.java"));
        C.due("signs 10 and 32 to 126 alone", all.chars().allMatch(s -> s == 10 || s >= 32 && s < 127), true);
        String code = all.replaceAll("(?s)/\\*.*?\\*/", "").replaceAll("//[^\n]*", "");
        for (String word : FORBIDDEN) {
            Matcher m = Pattern.compile(word).matcher(code);
            C.due("the code has " + word, m.find(), false);
        }
        String[] lines = all.split("\n");
        for (int i = 0; i < lines.length; i++) {
            if (lines[i].matches(" +(private|public) .*\\) \\{")) {
                String end = lines[i].substring(0, lines[i].length() - lines[i].stripLeading().length()) + "}";
                int last = i;
                while (!lines[last].equals(end)) {
                    last++;
                }
                C.due("short: " + lines[i].strip(), last - i < 60, true);
            }
        }
        // every loop counts
        Matcher loops = Pattern.compile("\\bfor \\(([^\n]*)\\) \\{").matcher(code.replace("';'", "0"));
        while (loops.find()) {
            C.due("a counter and a bound: " + loops.group(1),
                loops.group(1).matches("int \\w+ = [^;]+; [^;]*\\w+ (<|<=|>=) [^;]+; \\w+(\\+\\+|--| \\+= \\d| -= \\d)"), true);
        }
    }
}
