import java.util.NoSuchElementException;
import java.util.function.Supplier;

/** That a call that throws, or only asks, changes nothing: the object goes on like one without that call. */
public final class RefusedCallsTest {
    private static final Class<IllegalArgumentException> ARGUMENT = IllegalArgumentException.class;
    private static final Class<IllegalStateException> STATE = IllegalStateException.class;
    private static final Class<IndexOutOfBoundsException> INDEX = IndexOutOfBoundsException.class;
    private static final Class<NoSuchElementException> ELEMENT = NoSuchElementException.class;

    interface On {
        long answer(Stratahold x);
    }

    private static Supplier<Stratahold> before;
    private static String name = "";

    public static void main(String[] args) {
        Checks.says("a call that throws changes nothing.");
        from("a new object", Stratahold::new);
        onAny();
        notBegun();
        from("one with facts and rules", RefusedCallsTest::rich);
        onAny();
        onRich();
        notBegun();
        onAlone();
        from("one in which changes are made together", RefusedCallsTest::together);
        onAny();
        onRich();
        onTogether();
        from("a full one", RefusedCallsTest::full);
        onAny();
        onFull();
        from("one at the last tick", RefusedCallsTest::atTheEnd);
        onAny();
        dueRefused("a tick too much", STATE, x -> x.tick(1));
        from("one with choices", RefusedCallsTest::choosing);
        onAny();
        onChoosing();
        refusedCommits();
        Checks.end();
    }

    private static void from(String what, Supplier<Stratahold> maker) {
        name = what;
        before = maker;
    }

    private static void dueRefused(String what, Class<? extends RuntimeException> want, On call) {
        Checks.dueThrow(what + " of " + name, want, () -> call.answer(before.get()));
        dueSame(what, call);
    }

    private static void dueSame(String what, On call) {
        for (int kind = 0; kind < Future.KINDS; kind++) {
            Stratahold x = before.get();
            try {
                call.answer(x);
            } catch (RuntimeException e) {
                // whether it has to throw is asked elsewhere
            }
            Checks.due("future " + kind + " behind " + what + " of " + name, Future.of(x, kind), Future.of(before.get(), kind));
        }
    }

    /** The same, of a call behind which a text stands; the text stays. */
    private static void dueRefused(String text, String what, Class<? extends RuntimeException> want, On call) {
        Supplier<Stratahold> without = before;
        before = () -> {
            Stratahold x = without.get();
            Checks.write(x, text);
            return x;
        };
        dueRefused(what + " with " + text, want, call);
        before = without;
    }

    /** At the tick 3, with lives, a window, what others own, and a number that was dropped. */
    private static Stratahold rich() {
        Stratahold x = new Stratahold();
        Checks.add(x, "a(1).", 4);
        Checks.add(x, "a(2).", 6);
        Checks.add(x, "k(1).", 8);
        x.tick(3);
        Checks.addAll(x, "a(5). o(1). r(X):a(X)^3. o(X):r(X). :z(1). u(X):a(X),!b(X). b(5). :w(1). q(1):k(1). :b(5),!q(1).");
        Checks.addAll(x, "e(0). e(1). e(2). e(3).");
        x.drop(2);
        x.own('b');
        x.speak(1);
        x.own('o');
        x.speak(0);
        Checks.write(x, "a(X).");
        return x;
    }

    private static Stratahold together() {
        Stratahold x = rich();
        x.begin();
        Checks.add(x, "a(7).", 2);
        Checks.withdraw(x, "a(5).");
        Checks.add(x, "v(X):a(X).");
        x.drop(0);
        Checks.write(x, "a(7");
        return x;
    }

    /** With 24 facts that are told, 12 rules, constraints and choices, and 32 facts in the model. */
    private static Stratahold full() {
        Stratahold x = new Stratahold();
        for (int i = 0; i < 24; i++) {
            Checks.add(x, "a(" + i + ").", i == 23 ? 7 : 0);
        }
        for (int i = 0; i < 8; i++) {
            Checks.add(x, "b(" + i + "):a(1).");
        }
        return Checks.addAll(x, ":c(1). :c(2). b(X):a(X),X<X. b(1):a(2).");
    }

    private static Stratahold atTheEnd() {
        Stratahold x = Checks.with("a(1). r(X):a(X)^9.");
        for (int i = 0; i < 200; i++) {
            x.tick(5);
        }
        return x;
    }

    private static Stratahold choosing() {
        Stratahold x = Checks.with("a(1). a(2). ?c(X):a(X). :c(1). d(X):c(X). f(2). :!f(2).");
        Checks.add(x, "f(1).", 2);
        return Checks.addAll(x, ":!f(1),!f(9). h(1). h(2). h(3). h(4). h(5). h(6). ?p(X,Y):g(1),h(X),h(Y). :v(X),c(X).");
    }

    /** What throws in every state, and what only asks. */
    private static void onAny() {
        for (char sign : new char[] {0, 32, 127, 255, 65535}) {
            dueRefused("type " + (int) sign, ARGUMENT, x -> x.type(sign));
        }
        for (int life : new int[] {-1, 101}) {
            dueRefused("add(" + life + ")", ARGUMENT, x -> x.add(life));
        }
        for (int ticks : new int[] {0, -1, 6}) {
            dueRefused("tick(" + ticks + ")", ARGUMENT, x -> x.tick(ticks));
        }
        for (int module : new int[] {-1, 4}) {
            dueRefused("speak(" + module + ")", INDEX, x -> x.speak(module));
        }
        for (char letter : new char[] {'`', '{', 'A'}) {
            dueRefused("own " + letter, ARGUMENT, x -> Checks.nothing(() -> x.own(letter)));
        }
        for (int rule : new int[] {-1, 50}) {
            dueRefused("drop(" + rule + ")", INDEX, x -> x.drop(rule));
        }
        for (int place : new int[] {-1, 32}) {
            dueRefused("predicate", INDEX, x -> x.predicate(place));
            dueRefused("argument", INDEX, x -> x.argument(place, 0));
            dueRefused("stratum", INDEX, x -> x.stratum(place));
            dueRefused("round", INDEX, x -> x.round(place));
            dueRefused("reasons", INDEX, x -> x.reasons(place));
            dueRefused("least", INDEX, x -> x.least(place));
            dueRefused("why", INDEX, x -> x.why(place));
        }
        dueRefused("delta(13, 0)", INDEX, x -> x.delta(13, 0));
        dueRefused("delta(0, 101)", INDEX, x -> x.delta(0, 101));
        onTexts();
        asking();
    }

    private static void onTexts() {
        for (String text : new String[] {"a(1)", "", "a(1):b(1).", "a(X)."}) {
            dueRefused(text, "place", STATE, Stratahold::place);
            dueRefused(text, "standsAnew", STATE, x -> x.standsAnew() ? 1 : 0);
            dueRefused(text, "whyNot", STATE, Stratahold::whyNot);
            dueRefused(text, "withdraw", ELEMENT, Stratahold::withdraw);
            if (!text.equals("a(X).")) {
                dueRefused(text, "matches", STATE, Stratahold::matches);
                dueRefused(text, "matchesByGoals", STATE, Stratahold::matchesByGoals);
            }
            if (!text.equals("a(1):b(1).")) {
                dueRefused(text, "add", STATE, x -> x.add(0));
            }
        }
        String sixty = "a(s[X],s[Y],s[Z]):b(X,Y,Z),c(X,11),!d(X,Y,Z),N~x(W;e(W,99)).";
        dueRefused(sixty, "the 61st sign", STATE, x -> x.type('a'));
        dueRefused(sixty, "a wrong 61st sign", ARGUMENT, x -> x.type(' '));
        dueRefused("y(9).", "withdraw", ELEMENT, Stratahold::withdraw);
    }

    private static void asking() {
        dueSame("textError", Stratahold::textError);
        dueSame("refusal", Stratahold::refusal);
        dueSame("facts", Stratahold::facts);
        dueSame("factsAnew", Stratahold::factsAnew);
        dueSame("place", Stratahold::place);
        dueSame("standsAnew", x -> x.standsAnew() ? 1 : 0);
        dueSame("matches", Stratahold::matches);
        dueSame("matchesByGoals", Stratahold::matchesByGoals);
        dueSame("whyNot", Stratahold::whyNot);
        dueSame("predicate", x -> x.predicate(0));
        dueSame("argument", x -> x.argument(0, 0));
        dueSame("delta", x -> x.delta(0, 0));
        dueSame("reasons", x -> x.reasons(0));
        dueSame("least", x -> x.least(0));
        dueSame("why", x -> x.why(0));
    }

    private static void notBegun() {
        dueRefused("commit", STATE, Stratahold::commit);
        dueRefused("rollBack", STATE, x -> Checks.nothing(x::rollBack));
    }

    /** What is refused whether changes are made together or not. */
    private static void onRich() {
        dueRefused("a(Q):b(1).", "add of what is unsafe", STATE, x -> x.add(0));
        dueRefused("b(X):u(X).", "add of what has no strata", STATE, x -> x.add(0));
        dueRefused("o(5).", "add of what another owns", STATE, x -> x.add(0));
        dueRefused("o(5):a(5).", "add of a rule of another", STATE, x -> x.add(0));
        dueRefused("?o(5):a(5).", "add of a choice of another", STATE, x -> x.add(0));
        dueRefused("o(1).", "withdraw of what another owns", STATE, Stratahold::withdraw);
        dueRefused("drop of one that was dropped", INDEX, x -> x.drop(2));
        dueRefused("drop of one of another", STATE, x -> x.drop(1));
        dueRefused("own of what another owns", STATE, x -> Checks.nothing(() -> x.own('o')));
    }

    private static void onAlone() {
        dueRefused("w(1).", "add of what breaks", STATE, x -> x.add(0));
        dueRefused(":a(X).", "add of what is broken", STATE, x -> x.add(0));
        dueRefused("p(X,Y,Z):e(X),e(Y),e(Z).", "add of too much", STATE, x -> x.add(0));
        dueRefused("?p(X,Y,Z):e(X),e(Y),e(Z).", "add of too many candidates", STATE, x -> x.add(0));
        dueRefused("k(1).", "withdraw of what is needed", STATE, Stratahold::withdraw);
        dueRefused("drop of what is needed", STATE, x -> x.drop(5));
        dueRefused("u(1).", "whyNot of what is there", ELEMENT, Stratahold::whyNot);
        dueRefused("ticks of which the fifth is refused", STATE, x -> x.tick(5));
        for (String text : new String[] {"a(9).", "a(1).", "n(X):a(X).", ":n(1).", "?n(X):a(X).", "u(5).", "r(X)."}) {
            dueAsking(text);
        }
    }

    /** What a text that may be added, or asked, is asked for. */
    private static void dueAsking(String text) {
        Supplier<Stratahold> without = before;
        before = () -> {
            Stratahold x = without.get();
            Checks.write(x, text);
            return x;
        };
        asking();
        before = without;
    }

    private static void onTogether() {
        dueRefused("begin", STATE, x -> Checks.nothing(x::begin));
        dueRefused("a tick", STATE, x -> x.tick(1));
        dueRefused("five ticks", STATE, x -> x.tick(5));
        dueRefused("a(5).", "withdraw of what was withdrawn", ELEMENT, Stratahold::withdraw);
        dueRefused("drop of what was dropped", INDEX, x -> x.drop(0));
        for (String text : new String[] {"w(1).", "a(7).", "v(1).", "p(X,Y,Z):e(X),e(Y),e(Z).", "r(X)."}) {
            dueAsking(text);
        }
    }

    private static void onFull() {
        Checks.due("facts of the full one", before.get().facts(), 32);
        dueRefused("z(1).", "add of the 25th fact", STATE, x -> x.add(0));
        dueRefused("z(1):a(1).", "add of the 13th rule", STATE, x -> x.add(0));
        dueRefused(":z(1).", "add of the 13th constraint", STATE, x -> x.add(0));
        dueRefused("?z(1):a(1).", "add of the 13th choice", STATE, x -> x.add(0));
        dueAsking("a(23).");
        before = () -> {
            Stratahold x = full();
            x.drop(11);
            return x;
        };
        dueRefused("z(1):a(1).", "add of the 33rd fact of the model", STATE, x -> x.add(0));
        dueRefused("?z(X):a(X).", "add of the 33rd fact by a choice", STATE, x -> x.add(0));
    }

    private static void onChoosing() {
        dueRefused("v(2).", "add without a way", STATE, x -> x.add(0));
        dueRefused("g(1).", "add of too many candidates", STATE, x -> x.add(0));
        dueRefused("a(2).", "withdraw without a way", STATE, Stratahold::withdraw);
        dueRefused("f(2).", "withdraw of what is needed", STATE, Stratahold::withdraw);
        dueRefused("two ticks, of which the second is refused", STATE, x -> x.tick(2));
        dueRefused("five ticks, of which the second is refused", STATE, x -> x.tick(5));
        dueAsking("v(1).");
        dueAsking("c(X).");
    }

    /** A commit that is refused is like a rollBack; both keep the text, who speaks, and who owns what. */
    private static void refusedCommits() {
        Checks.says("with commit() 6 to 8 are looked at, and if the changes would be refused, all is as it was at begin(), "
                + "but for the text, who speaks, and who owns what; so it is with rollBack().");
        String[] last = {"p(X,Y,Z):e(X),e(Y),e(Z).", "w(1).", "?z(X):w(X)."};
        for (int refusal = 6; refusal <= 8; refusal++) {
            int kind = refusal - 6;
            from("one behind begin()", () -> {
                Stratahold x = together();
                if (kind == 2) {
                    Checks.add(x, "w(1).");
                }
                Checks.add(x, last[kind]);
                return x;
            });
            Checks.due("commit", before.get().commit(), refusal);
            for (int future = 0; future < Future.KINDS; future++) {
                Stratahold x = before.get();
                Stratahold y = before.get();
                Stratahold z = rich();
                Checks.write(z, last[kind]);
                x.commit();
                y.rollBack();
                String due = Future.of(z, future);
                Checks.due("future " + future + " behind a commit that is refused", Future.of(x, future), due);
                Checks.due("future " + future + " behind rollBack", Future.of(y, future), due);
            }
        }
        Stratahold x = together();
        Stratahold z = rich();
        for (Stratahold each : new Stratahold[] {x, z}) {
            each.speak(2);
            each.own('p');
            Checks.write(each, "zz");
        }
        x.rollBack();
        Checks.due("the text stays", Future.of(x, 0), Future.of(z, 0));
        Stratahold y = together();
        Stratahold u = rich();
        for (Stratahold each : new Stratahold[] {y, u}) {
            each.speak(2);
            each.own('p');
            Checks.write(each, "zz");
        }
        y.rollBack();
        Checks.due("who owns what stays", Future.of(y, 5), Future.of(u, 5));
    }
}
