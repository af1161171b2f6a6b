import java.util.function.LongSupplier;

/** What later calls answer, written into one text: objects in the same state have the same futures. */
final class Future {
    static final int KINDS = 8;

    private final Stratahold x;
    private final StringBuilder told = new StringBuilder();

    private Future(Stratahold x) {
        this.x = x;
    }

    /** Plays one kind of future; the object is of no more use then. */
    static String of(Stratahold x, int kind) {
        Future future = new Future(x);
        switch (kind) {
            case 0 -> future.theText();
            case 1 -> future.theModel();
            case 2 -> future.ticks();
            case 3 -> future.commit();
            case 4 -> future.rollBack();
            case 5 -> future.owners();
            case 6 -> future.drops();
            default -> future.adds();
        }
        return future.told.toString();
    }

    private void tell(String name, LongSupplier call) {
        told.append(' ').append(name).append('=');
        try {
            told.append(call.getAsLong());
        } catch (RuntimeException e) {
            told.append(e.getClass().getSimpleName());
        }
    }

    private void write(String text) {
        x.clearText();
        for (char sign : text.toCharArray()) {
            x.type(sign);
        }
    }

    private void theText() {
        tell("textError", x::textError);
        tell("refusal", x::refusal);
        tell("place", x::place);
        tell("standsAnew", () -> x.standsAnew() ? 1 : 0);
        tell("matches", x::matches);
        tell("matchesByGoals", x::matchesByGoals);
        tell("whyNot", x::whyNot);
        tell("withdraw", x::withdraw);
        tell("add", () -> x.add(3));
        tell("clearText", x::clearText);
        tell("speak", () -> x.speak(0));
        tell("begin", () -> Checks.nothing(x::begin));
    }

    private void theModel() {
        tell("factsAnew", x::factsAnew);
        int facts = x.facts();
        for (int i = 0; i <= facts; i++) {
            int place = i;
            tell("predicate", () -> x.predicate(place));
            for (int k = 0; k < 3; k++) {
                int argument = k;
                tell("argument", () -> x.argument(place, argument));
            }
            tell("stratum", () -> x.stratum(place));
            tell("round", () -> x.round(place));
            tell("reasons", () -> x.reasons(place));
            tell("least", () -> x.least(place));
            tell("why", () -> x.why(place));
        }
        for (int stratum = 0; stratum < 3; stratum++) {
            for (int round = 0; round < 3; round++) {
                told.append(' ').append(x.delta(stratum, round));
            }
        }
    }

    /** Until the tick 1000, one by one first. */
    private void ticks() {
        for (int i = 0; i < 5; i++) {
            tell("tick", () -> x.tick(1));
            tell("facts", x::facts);
        }
        for (int i = 0; i < 200; i++) {
            tell("tick", () -> x.tick(5));
        }
        tell("tick", () -> x.tick(1));
        tell("facts", x::facts);
    }

    private void commit() {
        tell("commit", x::commit);
        theModel();
        tell("rollBack", () -> Checks.nothing(x::rollBack));
    }

    private void rollBack() {
        tell("rollBack", () -> Checks.nothing(x::rollBack));
        theModel();
        tell("commit", x::commit);
    }

    private void owners() {
        tell("rollBack", () -> Checks.nothing(x::rollBack));
        for (char letter : "abopz".toCharArray()) {
            write(letter + "(1).");
            for (int module = 0; module < 4; module++) {
                int speaker = module;
                tell("speak", () -> x.speak(speaker));
                tell("refusal", x::refusal);
            }
        }
    }

    private void drops() {
        for (int i = 0; i < 20; i++) {
            int rule = i;
            tell("drop", () -> x.drop(rule));
            tell("facts", x::facts);
        }
        tell("commit", x::commit);
        theModel();
    }

    private void adds() {
        write("z(9):z(1).");
        for (int i = 0; i < 13; i++) {
            tell("add", () -> x.add(0));
        }
        for (int i = 1; i < 25; i++) {
            write("z(" + i + ").");
            tell("add", () -> x.add(1));
        }
        tell("begin", () -> Checks.nothing(x::begin));
    }
}
