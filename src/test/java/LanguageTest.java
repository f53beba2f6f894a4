import java.io.IOException;
import java.lang.reflect.Field;
import java.lang.reflect.Method;
import java.lang.reflect.Modifier;
import java.nio.file.Files;
import java.nio.file.Path;
import java.util.ArrayList;
import java.util.Arrays;
import java.util.List;
import java.util.Set;
import java.util.TreeSet;
import java.util.regex.Matcher;
import java.util.regex.Pattern;

/** The rules of ../shared/LANGUAGE.md that can be told from the source's words, and the document's face. */
public final class LanguageTest {
    private static final Check check = new Check("LanguageTest");

    private static final String[] FACE = {
        "int set(int,int,int)", "int person(int,int)", "int told(int,int)", "int feed(int)", "int text()", "int force(int)",
        "int year()", "int right(int)", "int run(int,int)", "int society(int)", "int cheapest(int,int)", "int most(int,int)",
        "int haze(int)", "int premium()", "int best(int,int)", "int agree(int,int)", "int tells(int,int,int)", "int film(int,int)",
        "int drawn(int)", "long chance(int,int,int,int)", "int image()", "int back()", "int count(int)", "int sheet(int,int,int)",
        "int cell(int,int,int)", "int copy(int,int,int,int,int)", "int people(int,int,int,int)", "int taken(int,int)"};

    public static void main(String[] args) throws IOException {
        String source = Files.readString(Path.of("src/main/java/RememberedAsSunny.java"));
        face();
        insides();
        String code = code(source);
        words(code);
        staticFields(code);
        methods(code);
        check.due("signs above 127", source.chars().filter(c -> c > 127).count(), 0);
        check.end();
    }

    private static void face() {
        Class<?> c = RememberedAsSunny.class;
        check.that("public and final", Modifier.isPublic(c.getModifiers()) && Modifier.isFinal(c.getModifiers()));
        check.due("constructors", c.getDeclaredConstructors().length, 1);
        check.that("its constructor", Modifier.isPublic(c.getDeclaredConstructors()[0].getModifiers()));
        Set<String> face = new TreeSet<>();
        Set<String> privates = new TreeSet<>();
        for (Method m : c.getDeclaredMethods()) {
            if (Modifier.isPrivate(m.getModifiers())) {
                privates.add(m.getName());
            } else {
                String types = Arrays.toString(m.getParameterTypes()).replaceAll("[\\[\\] ]", "");
                face.add(m.getReturnType() + " " + m.getName() + "(" + types + ")");
            }
        }
        check.that("the face " + face, face.equals(new TreeSet<>(Arrays.asList(FACE))));
        for (Field f : c.getDeclaredFields()) {
            boolean constant = Set.of("NONE", "BAD", "STATE", "FULL", "NO").contains(f.getName());
            check.that("the field " + f.getName(), constant ? Modifier.isPublic(f.getModifiers()) : Modifier.isPrivate(f.getModifiers()));
        }
        check.due("NONE", RememberedAsSunny.NONE, -1);
        check.due("BAD", RememberedAsSunny.BAD, -2);
        check.due("STATE", RememberedAsSunny.STATE, -3);
        check.due("FULL", RememberedAsSunny.FULL, -4);
        check.due("NO", RememberedAsSunny.NO, -4611686018427387904L);
        for (Class<?> inside : c.getDeclaredClasses()) {
            for (Method m : inside.getDeclaredMethods()) {
                privates.add(m.getName());
            }
        }
        for (String call : FACE) {
            String name = call.substring(call.indexOf(' ') + 1, call.indexOf('('));
            check.that("no private method is named " + name, !privates.contains(name));
        }
    }

    private static void insides() {
        Class<?>[] insides = RememberedAsSunny.class.getDeclaredClasses();
        check.that("classes: " + insides.length, insides.length <= 11);
        List<Class<?>> all = new ArrayList<>(Arrays.asList(insides));
        all.add(RememberedAsSunny.class);
        for (Class<?> c : all) {
            int fields = 0;
            for (Field f : c.getDeclaredFields()) {
                if (!Modifier.isStatic(f.getModifiers())) {
                    fields++;
                } else {
                    check.that(c + " " + f.getName() + " is final", Modifier.isFinal(f.getModifiers()));
                }
            }
            check.that("fields of " + c + ": " + fields, fields <= 20);
            check.that(c + " is static", c == RememberedAsSunny.class || Modifier.isStatic(c.getModifiers()));
            for (Method m : c.getDeclaredMethods()) {
                check.that(m + " takes seven at most", m.getParameterCount() <= 7);
                check.that(m + " is none of Object's", !Set.of("equals", "hashCode", "toString").contains(m.getName()));
            }
        }
    }

    /** The source with comments, texts and characters made blank. */
    private static String code(String source) {
        Matcher m = Pattern.compile("/\\*.*?\\*/|//[^\\n]*|\"[^\"\\n]*\"|'[^'\\n]*'", Pattern.DOTALL).matcher(source);
        StringBuilder code = new StringBuilder();
        while (m.find()) {
            m.appendReplacement(code, m.group().startsWith("/") ? "\n".repeat((int) m.group().lines().count() - 1) : "0");
        }
        return m.appendTail(code).toString();
    }

    private static void words(String code) {
        String[] forbidden = {
            "\\bthrow\\b", "\\bthrows\\b", "\\btry\\b", "\\bcatch\\b", "\\bsynchronized\\b", "\\bassert\\b", "\\bpackage\\b", "\\bimport\\b",
            "->", "::", "@", "\\bstatic\\s*\\{", "\\bvar\\b", "\\bprotected\\b", "\\bdouble\\b", "\\bfloat\\b", "\\bvolatile\\b", "\\bnative\\b",
            "\\bSystem\\.(?!arraycopy\\b)", "\\bThread\\b", "\\bRandom\\b", "\\bObject\\b", "Exact\\b", "\\byield\\b", "\\binstanceof\\b",
            "\\bfor\\s*\\(\\s*;", "\\bwhile\\s*\\(\\s*true"};
        for (String word : forbidden) {
            check.that("none of " + word, !Pattern.compile(word).matcher(code).find());
        }
        // A while has its bound in its own words.
        Matcher loops = Pattern.compile("\\bwhile\\s*\\(([^\\n]*)\\)\\s*\\{").matcher(code);
        while (loops.find()) {
            check.that("while (" + loops.group(1) + ")", loops.group(1).startsWith("next < size &&"));
        }
        Matcher fors = Pattern.compile("\\bfor\\s*\\(([^;]*);([^;]*);([^\\n]*)\\)\\s*\\{").matcher(code);
        while (fors.find()) {
            check.that("for (" + fors.group(1) + ")", fors.group(2).contains("<") || fors.group(2).contains(">"));
        }
    }

    private static void staticFields(String code) {
        Matcher m = Pattern.compile("\\bstatic\\s+(?!final\\b)\\w+(\\[\\])?\\s+\\w+\\s*[=;]").matcher(code);
        check.that("static fields are final", !m.find());
    }

    /** A method begins four or eight blanks in and ends with a brace as far in. */
    private static void methods(String code) {
        CallGraph graph = new CallGraph();
        String[] lines = code.split("\n");
        String within = "RememberedAsSunny";
        for (int i = 0; i < lines.length; i++) {
            Matcher inside = Pattern.compile("^ {4}private static final class (\\w+) \\{$").matcher(lines[i]);
            within = inside.matches() ? inside.group(1) : within;
            Matcher m = Pattern.compile("^( {4}| {8})[a-zA-Z].*?(\\w+)\\(.*\\) \\{$").matcher(lines[i]);
            if (m.matches() && !lines[i].matches(" +(if|for|while|switch|do|else) .*")) {
                int end = i;
                while (end < lines.length && !lines[end].equals(m.group(1) + "}")) {
                    end++;
                }
                check.that("the method of line " + (i + 1) + " is short", end - i < 60);
                graph.add(within, m.group(2), String.join("\n", Arrays.asList(lines).subList(i + 1, end)));
            }
        }
        check.that("methods", graph.methods().size() > 100);
        for (String method : graph.methods()) {
            check.that(method + " goes eight deep at most", graph.depth(method) <= 8);
        }
    }
}
