/** What the tests share: typing texts, and comparing answers and exceptions with what is due. */
final class Checks {
    static final int THREW_NOTHING = 0;
    private static int wrong = 0;
    private static int asked = 0;

    private Checks() {
    }

    interface Call {
        long answer();
    }

    static void due(String what, long got, long want) {
        asked++;
        if (got != want) {
            wrong++;
            System.out.println(what + " answered " + got + ", due is " + want);
        }
    }

    static void due(String what, boolean got, boolean want) {
        due(what, got ? 1 : 0, want ? 1 : 0);
    }

    /** The call has to throw exactly this class, no class below it. */
    static void dueThrow(String what, Class<? extends RuntimeException> want, Call call) {
        asked++;
        String got;
        try {
            got = "the answer " + call.answer();
        } catch (RuntimeException e) {
            if (e.getClass() == want) {
                return;
            }
            got = e.toString();
        }
        wrong++;
        System.out.println(what + " gave " + got + ", due is " + want.getSimpleName());
    }

    /** Replaces the text. */
    static void write(Stratahold x, String text) {
        x.clearText();
        for (int i = 0; i < text.length(); i++) {
            x.type(text.charAt(i));
        }
    }

    static int add(Stratahold x, String text) {
        return add(x, text, 0);
    }

    static int add(Stratahold x, String text, int life) {
        write(x, text);
        return x.add(life);
    }

    /** Adds texts that stand behind one another with blanks between them. */
    static Stratahold with(String texts) {
        return addAll(new Stratahold(), texts);
    }

    static Stratahold addAll(Stratahold x, String texts) {
        for (String text : texts.trim().split("\\s+")) {
            if (!text.isEmpty()) {
                try {
                    add(x, text);
                } catch (IllegalStateException e) {
                    due("adding " + text + " is refused", x.refusal(), 0);
                }
            }
        }
        return x;
    }

    static int refusal(Stratahold x, String text) {
        write(x, text);
        return x.refusal();
    }

    static int withdraw(Stratahold x, String text) {
        write(x, text);
        return x.withdraw();
    }

    static int place(Stratahold x, String text) {
        write(x, text);
        return x.place();
    }

    static boolean has(Stratahold x, String text) {
        return place(x, text) != Stratahold.NONE;
    }

    static int matches(Stratahold x, String text) {
        write(x, text);
        return x.matches();
    }

    static int error(String text) {
        Stratahold x = new Stratahold();
        write(x, text);
        return x.textError();
    }

    /** All facts of the model in order, as texts with blanks between them. */
    static String model(Stratahold x) {
        StringBuilder facts = new StringBuilder();
        for (int place = 0; place < x.facts(); place++) {
            if (place > 0) {
                facts.append(' ');
            }
            int predicate = x.predicate(place);
            facts.append((char) ('a' + predicate / 4)).append('(');
            for (int k = 0; k < predicate % 4; k++) {
                facts.append(k > 0 ? "," : "").append(value(x.argument(place, k)));
            }
            facts.append(')');
        }
        return facts.toString();
    }

    static String value(int code) {
        if (code < 100) {
            return Integer.toString(code);
        }
        if (code < 200) {
            return Character.toString((char) ('a' + code - 100));
        }
        return (char) ('a' + code % 200 - 100) + "[" + value(code / 200 - 1) + "]";
    }

    static void dueModel(String what, Stratahold x, String want) {
        asked++;
        String got = model(x);
        if (!got.equals(want)) {
            wrong++;
            System.out.println(what + " has the model " + got + ", due is " + want);
        }
        due(what + ", anew", x.factsAnew(), x.facts());
    }

    /** Ends the program, with the exit code 1 if an answer was not the one that is due. */
    static void end() {
        System.out.println(asked + " answers, " + wrong + " of them wrong");
        System.exit(wrong > 0 || asked == 0 ? 1 : 0);
    }
}
