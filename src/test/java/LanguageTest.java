import java.io.IOException;
import java.lang.reflect.Constructor;
import java.lang.reflect.Field;
import java.lang.reflect.Method;
import java.lang.reflect.Modifier;
import java.nio.charset.StandardCharsets;
import java.nio.file.Files;
import java.nio.file.Path;
import java.util.Arrays;
import java.util.List;
import java.util.Set;
import java.util.TreeSet;
import java.util.regex.Matcher;
import java.util.regex.Pattern;

/** What of ../shared/LANGUAGE.md can be seen from outside: the face, the classes, words that are not allowed. */
public final class LanguageTest {
    private static final List<String> FACE = List.of(
            "type(char)int", "clearText()int", "textError()int", "refusal()int", "add(int)int", "withdraw()int",
            "drop(int)int", "tick(int)int", "begin()void", "commit()int", "rollBack()void", "speak(int)int",
            "own(char)void", "facts()int", "factsAnew()int", "predicate(int)int", "argument(int,int)int",
            "place()int", "standsAnew()boolean", "matches()int", "matchesByGoals()int", "stratum(int)int",
            "round(int)int", "delta(int,int)int", "reasons(int)int", "least(int)int", "why(int)int", "whyNot()int");
    private static final List<String> WORDS = List.of(
            "try", "catch", "finally", "synchronized", "assert", "instanceof", "double", "float", "Object", "Thread",
            "System", "Random", "HashMap", "HashSet", "Map", "Set", "String", "List", "yield", "var", "record",
            "Exact", "native", "volatile", "transient", "protected", "extends", "implements");

    public static void main(String[] args) throws IOException {
        face();
        linesOfTheFace();
        classes();
        words();
        Checks.end();
    }

    private static void face() {
        Set<String> got = new TreeSet<>();
        for (Method m : Stratahold.class.getDeclaredMethods()) {
            if (Modifier.isPublic(m.getModifiers())) {
                StringBuilder s = new StringBuilder(m.getName()).append('(');
                for (Class<?> c : m.getParameterTypes()) {
                    s.append(s.charAt(s.length() - 1) == '(' ? "" : ",").append(c.getSimpleName());
                }
                got.add(s.append(')').append(m.getReturnType().getSimpleName()).toString());
            } else {
                Checks.due(m + " is private", Modifier.isPrivate(m.getModifiers()) || m.isSynthetic(), true);
                Checks.due(m + " bears a name of the face", FACE.stream().anyMatch(f -> f.startsWith(m.getName() + "(")), false);
            }
        }
        Checks.due("the face is " + got, got.equals(new TreeSet<>(FACE)), true);
        Constructor<?>[] constructors = Stratahold.class.getDeclaredConstructors();
        Checks.due("constructors", constructors.length, 1);
        Checks.due("without parameters", constructors[0].getParameterCount(), 0);
        Checks.due("it is public and final", Stratahold.class.getModifiers(), Modifier.PUBLIC | Modifier.FINAL);
        Checks.due("fields", Arrays.stream(Stratahold.class.getDeclaredFields())
                .filter(f -> !Modifier.isStatic(f.getModifiers())).count() <= 20, true);
        Set<String> constants = new TreeSet<>();
        for (Field f : Stratahold.class.getDeclaredFields()) {
            if (Modifier.isPublic(f.getModifiers())) {
                constants.add(f.getName());
            } else {
                Checks.due(f + " is private", Modifier.isPrivate(f.getModifiers()), true);
            }
        }
        Checks.due("constants " + constants, constants.equals(Set.of("NONE", "TOLD", "CHOSEN")), true);
    }

    /** Each line of the document's face stands in the program, with the exceptions in their order. */
    private static void linesOfTheFace() throws IOException {
        String document = Files.readString(Path.of("../shared/DOC.md"), StandardCharsets.UTF_8);
        String source = Files.readString(Path.of("src/main/java/Stratahold.java"), StandardCharsets.ISO_8859_1);
        int begin = document.indexOf("public final class Stratahold {");
        int end = document.indexOf("\n}", Math.max(begin, 0));
        Checks.due("the document shows the face", begin >= 0 && end > begin, true);
        String[] lines = begin < 0 || end < begin ? new String[0] : document.substring(begin, end).split("\n");
        for (String line : lines) {
            String due = line.replace("java.util.", "").replaceAll("\\);$", ") {").replaceAll("Exception;$", "Exception {");
            Checks.due("the line " + due, source.contains("\n" + due + "\n"), true);
        }
        Checks.due("lines of the face", lines.length, 1 + 2 + 1 + FACE.size());
    }

    private static void classes() {
        Class<?>[] inside = Stratahold.class.getDeclaredClasses();
        Checks.due("no more than twelve classes", inside.length < 12, true);
        for (Class<?> c : inside) {
            int m = c.getModifiers();
            Checks.due(c + " is static and not public", Modifier.isStatic(m) && !Modifier.isPublic(m), true);
            for (Method method : c.getDeclaredMethods()) {
                boolean taken = FACE.stream().anyMatch(f -> f.startsWith(method.getName() + "("));
                Checks.due(method + " bears a name of the face", taken, false);
                Checks.due(method + " has more than seven parameters", method.getParameterCount() > 7, false);
            }
            Field[] fields = c.getDeclaredFields();
            Checks.due("fields of " + c, Arrays.stream(fields).filter(f -> !Modifier.isStatic(f.getModifiers())).count() <= 20, true);
            for (Field f : fields) {
                Checks.due(f + " is not static or final", Modifier.isStatic(f.getModifiers()) && !Modifier.isFinal(f.getModifiers()), false);
            }
        }
    }

    private static void words() throws IOException {
        String source = Files.readString(Path.of("src/main/java/Stratahold.java"), StandardCharsets.ISO_8859_1);
        Checks.due("signs are ASCII", source.chars().allMatch(c -> c < 128), true);
        String code = source.replaceAll("(?s)/\\*.*?\\*/", "").replaceAll("//[^\n]*", "").replaceAll("\"[^\"]*\"", "'T'");
        Checks.due("imports", code.replaceAll("(?m)^import (java\\.util\\.(Arrays|NoSuchElementException));$", "").contains("import"), false);
        for (String word : WORDS) {
            Checks.due("the word " + word, Pattern.compile("\\b" + word + "\\b").matcher(code).find(), false);
        }
        Checks.due("lambdas", code.contains("->") || code.contains("::"), false);
        Checks.due("joined texts", code.contains("'T' +") || code.contains("+ 'T'"), false);
        Checks.due("static blocks", code.contains("static {"), false);
        Checks.due("loops without an end", Pattern.compile("while \\(true|for \\(;|; ;").matcher(code).find(), false);
        Matcher throwing = Pattern.compile("throw [^;]*;").matcher(code);
        while (throwing.find()) {
            Checks.due(throwing.group(), throwing.group().matches(
                    "throw new (IllegalArgument|IllegalState|IndexOutOfBounds|NoSuchElement)Exception\\('T'\\);"), true);
        }
        lengths(source.split("\n"));
    }

    private static void lengths(String[] lines) {
        int start = 0;
        for (int i = 0; i < lines.length; i++) {
            if (lines[i].matches("( {4}| {8})[a-zA-Z].*\\) (throws .*)?\\{")) {
                start = i;
            }
            boolean ends = lines[start].startsWith("        ") ? lines[i].equals("        }") : lines[i].equals("    }");
            if (ends) {
                Checks.due("line " + (i + 1) + " ends a long method", i - start > 60, false);
                start = i;
            }
        }
    }
}
