import java.util.function.IntSupplier;

/** Runs of calls on the class and on the oracle at once, which have to answer the same. */
public final class OracleTest {
    private static int wrong = 0;
    private static long asked = 0;
    private static int[] refusals = new int[9];
    private static long run;
    private static StringBuilder told;

    private final Stratahold x = new Stratahold();
    private final Oracle y = new Oracle();
    private final Texts texts;

    private OracleTest(Texts texts) {
        this.texts = texts;
    }

    public static void main(String[] args) {
        int runs = args.length > 0 ? Integer.parseInt(args[0]) : 1500;
        int from = args.length > 1 ? Integer.parseInt(args[1]) : 0;
        for (run = from; run < from + runs && wrong < 20; run++) {
            told = new StringBuilder();
            int before = wrong;
            new OracleTest(new Texts(run)).play(run);
            if (wrong > before) {
                System.out.println("run " + run + ":" + told);
            }
        }
        System.out.println(asked + " answers, " + wrong + " of them wrong; refusals "
                + java.util.Arrays.toString(refusals));
        System.exit(wrong > 0 || asked == 0 ? 1 : 0);
    }

    private static String outcome(IntSupplier call) {
        try {
            return Integer.toString(call.getAsInt());
        } catch (RuntimeException e) {
            return e.getClass().getSimpleName();
        }
    }

    private String same(String name, IntSupplier mine, IntSupplier due) {
        asked++;
        String got = outcome(mine);
        String want = outcome(due);
        told.append(' ').append(name).append('=').append(want);
        if (!got.equals(want)) {
            wrong++;
            System.out.println("run " + run + ": " + name + " answered " + got + ", due is " + want);
        }
        return want;
    }

    private void write(String text) {
        same("clearText", x::clearText, y::clearText);
        told.append("\n  ").append(text);
        for (int i = 0; i < text.length() && i < 60; i++) {
            char sign = text.charAt(i);
            asked++;
            x.type(sign);
            y.type(sign);
        }
        same("textError", x::textError, y::textError);
    }

    private void play(long seed) {
        int steps = 20 + texts.below(60);
        boolean modules = texts.chance(20);
        boolean facts = texts.chance(15);
        if (texts.chance(15)) {
            crowd();
        }
        for (int i = 0; i < steps && wrong < 20; i++) {
            int kind = texts.below(100);
            if (kind < 60) {
                write(facts && texts.chance(80) ? texts.fact() : texts.text());
                String why = same("refusal", x::refusal, y::refusal);
                refusals[Integer.parseInt(why)]++;
                int life = texts.chance(70) ? 0 : texts.chance(95) ? 1 + texts.below(8) : texts.below(104) - 2;
                same("add(" + life + ")", () -> x.add(life), () -> y.add(life));
            } else if (kind < 68) {
                write(texts.chance(90) ? texts.fact() : texts.question());
                same("withdraw", x::withdraw, y::withdraw);
            } else if (kind < 74) {
                int rule = texts.below(16) - 1;
                same("drop(" + rule + ")", () -> x.drop(rule), () -> y.drop(rule));
            } else if (kind < 82) {
                int ticks = texts.chance(97) ? 1 + texts.below(3) : texts.below(8);
                same("tick(" + ticks + ")", () -> x.tick(ticks), () -> y.tick(ticks));
            } else if (kind < 87) {
                together();
            } else if (kind < 90 && modules) {
                int module = texts.below(6) - 1;
                same("speak(" + module + ")", () -> x.speak(module), () -> y.speak(module));
                char letter = texts.chance(90) ? texts.letter() : '`';
                same("own " + letter, () -> nothing(() -> x.own(letter)), () -> nothing(() -> y.own(letter)));
            } else {
                ask();
            }
            same("facts", x::facts, y::facts);
            if (texts.chance(25)) {
                look();
            }
        }
        look();
    }

    /** Tells many facts, so that the limits are near. */
    private void crowd() {
        int many = 10 + texts.below(20);
        for (int i = 0; i < many; i++) {
            write(texts.chance(50) ? texts.letters.charAt(0) + "(" + texts.below(40) + ")." : texts.fact());
            same("add(0)", () -> x.add(0), () -> y.add(0));
        }
    }

    private static int nothing(Runnable call) {
        call.run();
        return 0;
    }

    private void together() {
        int kind = texts.below(5);
        if (kind < 2) {
            same("begin", () -> nothing(x::begin), () -> nothing(y::begin));
        } else if (kind < 4) {
            same("commit", x::commit, y::commit);
        } else {
            same("rollBack", () -> nothing(x::rollBack), () -> nothing(y::rollBack));
        }
    }

    private void ask() {
        write(texts.question());
        same("place", x::place, y::place);
        same("standsAnew", () -> x.standsAnew() ? 1 : 0, () -> y.stands() ? 1 : 0);
        same("matches", x::matches, y::matches);
        same("matchesByGoals", x::matchesByGoals, y::matches);
        same("whyNot", x::whyNot, y::whyNot);
    }

    private void look() {
        same("factsAnew", x::factsAnew, y::facts);
        for (int i = -1; i <= y.facts(); i++) {
            int place = i;
            same("predicate(" + i + ")", () -> x.predicate(place), () -> y.predicate(place));
            for (int k = -1; k < 4; k++) {
                int argument = k;
                same("argument(" + i + "," + k + ")", () -> x.argument(place, argument), () -> y.argument(place, argument));
            }
            same("stratum(" + i + ")", () -> x.stratum(place), () -> y.stratum(place));
            same("round(" + i + ")", () -> x.round(place), () -> y.round(place));
            same("reasons(" + i + ")", () -> x.reasons(place), () -> y.reasons(place));
            same("least(" + i + ")", () -> x.least(place), () -> y.least(place));
            same("why(" + i + ")", () -> x.why(place), () -> y.why(place));
        }
        for (int s = -1; s < 4; s++) {
            for (int r = -1; r < 5; r++) {
                int stratum = s;
                int round = r;
                same("delta(" + s + "," + r + ")", () -> x.delta(stratum, round), () -> y.delta(stratum, round));
            }
        }
    }
}
