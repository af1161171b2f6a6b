import java.io.IOException;
import java.nio.charset.StandardCharsets;
import java.nio.file.Files;
import java.nio.file.Path;

/** What the tests share: typing texts, and comparing answers and exceptions with what is due. */
final class Checks {
    private static int wrong = 0;
    private static int asked = 0;
    private static String document = "";
    private static String words = "";

    private Checks() {
    }

    interface Call {
        long answer();
    }

    /** What the checks that come next are about: words that have to stand in the document. */
    static void says(String sentence) {
        asked++;
        words = sentence;
        if (document.isEmpty()) {
            document = withoutBreaks(Path.of("../shared/DOC.md"));
        }
        if (!document.contains(sentence)) {
            complain("it is not in the document");
        }
    }

    private static String withoutBreaks(Path path) {
        try {
            return Files.readString(path, StandardCharsets.UTF_8).replaceAll("\\s+", " ");
        } catch (IOException e) {
            return "no document: " + e;
        }
    }

    private static void complain(String line) {
        wrong++;
        System.out.println(words.isEmpty() ? line : "\"" + words + "\": " + line);
    }

    static void due(String what, long got, long want) {
        asked++;
        if (got != want) {
            complain(what + " answered " + got + ", due is " + want);
        }
    }

    static void due(String what, String got, String want) {
        asked++;
        if (!got.equals(want)) {
            complain(what + " answered " + got + ", due is " + want);
        }
    }

    static void due(String what, boolean got, boolean want) {
        due(what, got ? 1 : 0, want ? 1 : 0);
    }

    /** The call has to throw exactly this class, no class below it. */
    static void dueThrow(String what, Class<? extends RuntimeException> want, Call call) {
        asked++;
        String got;
        try {
            got = "the answer " + call.answer();
        } catch (RuntimeException e) {
            if (e.getClass() == want) {
                return;
            }
            got = e.toString();
        }
        complain(what + " gave " + got + ", due is " + want.getSimpleName());
    }

    /** Replaces the text. */
    static void write(Stratahold x, String text) {
        x.clearText();
        for (int i = 0; i < text.length(); i++) {
            x.type(text.charAt(i));
        }
    }

    static int add(Stratahold x, String text) {
        return add(x, text, 0);
    }

    static int add(Stratahold x, String text, int life) {
        write(x, text);
        return x.add(life);
    }

    static void dueRefusal(Stratahold x, String text, int want) {
        due("refusal of " + text, refusal(x, text), want);
    }

    static void dueError(String text, int want) {
        due("textError of " + text, error(text), want);
    }

    /** A method without an answer, as one with an answer. */
    static long nothing(Runnable call) {
        call.run();
        return 0;
    }

    /** Adds texts that stand behind one another with blanks between them. */
    static Stratahold with(String texts) {
        return addAll(new Stratahold(), texts);
    }

    static Stratahold addAll(Stratahold x, String texts) {
        for (String text : texts.trim().split("\\s+")) {
            if (!text.isEmpty()) {
                try {
                    add(x, text);
                } catch (IllegalStateException e) {
                    due("adding " + text + " is refused", x.refusal(), 0);
                }
            }
        }
        return x;
    }

    static int refusal(Stratahold x, String text) {
        write(x, text);
        return x.refusal();
    }

    static int withdraw(Stratahold x, String text) {
        write(x, text);
        return x.withdraw();
    }

    static int place(Stratahold x, String text) {
        write(x, text);
        return x.place();
    }

    static boolean has(Stratahold x, String text) {
        return place(x, text) != Stratahold.NONE;
    }

    static int matches(Stratahold x, String text) {
        write(x, text);
        return x.matches();
    }

    static int error(String text) {
        Stratahold x = new Stratahold();
        write(x, text);
        return x.textError();
    }

    /** All facts of the model in order, as texts with blanks between them. */
    static String model(Stratahold x) {
        StringBuilder facts = new StringBuilder();
        for (int place = 0; place < x.facts(); place++) {
            if (place > 0) {
                facts.append(' ');
            }
            int predicate = x.predicate(place);
            facts.append((char) ('a' + predicate / 4)).append('(');
            for (int k = 0; k < predicate % 4; k++) {
                facts.append(k > 0 ? "," : "").append(value(x.argument(place, k)));
            }
            facts.append(')');
        }
        return facts.toString();
    }

    static String value(int code) {
        if (code < 100) {
            return Integer.toString(code);
        }
        if (code < 200) {
            return Character.toString((char) ('a' + code - 100));
        }
        return (char) ('a' + code % 200 - 100) + "[" + value(code / 200 - 1) + "]";
    }

    static void dueModel(String what, Stratahold x, String want) {
        asked++;
        String got = model(x);
        if (!got.equals(want)) {
            complain(what + " has the model " + got + ", due is " + want);
        }
        due(what + ", anew", x.factsAnew(), x.facts());
    }

    /** Ends the program, with the exit code 1 if an answer was not the one that is due. */
    static void end() {
        System.out.println(asked + " answers, " + wrong + " of them wrong");
        System.exit(wrong > 0 || asked == 0 ? 1 : 0);
    }
}
