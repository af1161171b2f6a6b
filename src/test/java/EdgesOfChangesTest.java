import java.util.NoSuchElementException;

/** The edges that the document names in "Modules, together", in "Exceptions", and at the calls that change. */
public final class EdgesOfChangesTest {
    private static final Class<IllegalArgumentException> ARGUMENT = IllegalArgumentException.class;
    private static final Class<IllegalStateException> STATE = IllegalStateException.class;
    private static final Class<IndexOutOfBoundsException> INDEX = IndexOutOfBoundsException.class;
    private static final Class<NoSuchElementException> ELEMENT = NoSuchElementException.class;

    public static void main(String[] args) {
        newObject();
        lastCall();
        signs();
        clearing();
        refusals();
        livesOfAdd();
        answersOfAdd();
        withdrawals();
        drops();
        numbers();
        ticks();
        lastTick();
        beginnings();
        ends();
        oneToFiveAlone();
        inBetween();
        sixToEight();
        modules();
        letters();
        whatIsOwned();
        firstNamedExceptions();
        Checks.end();
    }

    private static void dueAdd(Stratahold x, String text, int want) {
        Checks.due("add of " + text, Checks.add(x, text), want);
    }

    private static void dueNoAdd(Stratahold x, String text, int refusal) {
        Checks.dueRefusal(x, text, refusal);
        Checks.dueThrow("add of " + text, STATE, () -> x.add(0));
    }

    private static void newObject() {
        Checks.says("Begins at the tick 0, with an empty text, and without facts and rules.");
        Stratahold x = new Stratahold();
        Checks.due("its text", x.clearText(), 0);
        Checks.due("its error", x.textError(), 0);
        Checks.due("its refusal", x.refusal(), 1);
        Checks.due("its facts", x.facts(), 0);
        Checks.dueThrow("a fact", INDEX, () -> x.predicate(0));
        Checks.dueThrow("a rule", INDEX, () -> x.drop(0));
        Checks.dueThrow("nothing is begun", STATE, x::commit);
        for (int i = 0; i < 200; i++) {
            Checks.due("ticks until 1000", x.tick(5), 0);
        }
        Checks.dueThrow("the tick 1001", STATE, () -> x.tick(1));
    }

    private static void lastCall() {
        Checks.says("An object is used for at most 512 calls after it has been made;");
        Stratahold x = new Stratahold();
        for (int round = 0; round < 64; round++) {
            String text = "a(" + round % 10 + ").";
            Checks.due("clearText", x.clearText(), round > 0 ? 5 : 0);
            for (int i = 0; i < 5; i++) {
                Checks.due("sign " + i, x.type(text.charAt(i)), i + 1);
            }
            Checks.due("add", x.add(round % 3), Math.min(round + 1, 10));
            Checks.due("the call " + (8 * round + 8), x.matchesByGoals(), 1);
        }
    }

    private static void signs() {
        Checks.says("Types a char. - `sign`: a char from 33 to 126");
        Stratahold x = new Stratahold();
        for (char sign : new char[] {32, 127, 0, 10, 128, 160, 256 + 33, 65535}) {
            Checks.dueThrow("type " + (int) sign, ARGUMENT, () -> x.type(sign));
        }
        Checks.due("the least one", x.type((char) 33), 1);
        Checks.due("the greatest one", x.type((char) 126), 2);
        Checks.says("Throws `IllegalStateException` if it has 60");
        for (int i = 3; i <= 60; i++) {
            Checks.due("sign " + i, x.type('a'), i);
        }
        Checks.dueThrow("sign 61", STATE, () -> x.type('a'));
        Checks.dueThrow("sign 61, a wrong one", ARGUMENT, () -> x.type((char) 127));
    }

    private static void clearing() {
        Checks.says("Empties the text. Returns how many chars it had.");
        Stratahold x = new Stratahold();
        for (int length : new int[] {0, 1, 2, 59, 60}) {
            for (int i = 0; i < length; i++) {
                x.type('(');
            }
            Checks.due("clearText of " + length, x.clearText(), length);
            Checks.due("once more", x.clearText(), 0);
        }
    }

    private static void refusals() {
        Checks.says("Returns why adding the text would be refused now; between begin() and the end of it, by 1 to 5 alone. "
                + "Returns 1 to 8; 0 if it would not be.");
        Stratahold x = Checks.with("a(1). :z(1).");
        x.own('o');
        x.speak(3);
        String[] texts = {"a(2).", "a(2)", "a(X).", "b(1):!b(1).", "o(1).", null, null, "z(1).", "?z(X):a(X)."};
        for (int i = 0; i < texts.length; i++) {
            if (texts[i] != null) {
                Checks.dueRefusal(x, texts[i], i);
            }
        }
        for (int i = 2; i <= 24; i++) {
            dueAdd(x, "a(" + i + ").", i);
        }
        Checks.dueRefusal(x, "b(1).", 5);
        Checks.dueRefusal(x, "b(X):a(X).", 6);
        Checks.dueRefusal(x, "b(X):a(X),!a(X).", 0);
        x.begin();
        Checks.dueRefusal(x, "b(X):a(X).", 0);
        Checks.dueRefusal(x, ":a(X).", 0);
        Checks.dueRefusal(x, "b(1).", 5);
        Checks.dueRefusal(x, "b(1):!b(1).", 3);
        x.rollBack();
        Checks.dueRefusal(x, "b(X):a(X).", 6);
        Checks.dueRefusal(x, ":a(X).", 7);
    }

    private static void livesOfAdd() {
        Checks.says("- `life`: 0 to 100; it matters for a fact alone");
        String[] texts = {"a(1).", "b(X):a(X).", ":b(9).", "?c(X):a(X)."};
        for (String text : texts) {
            Stratahold x = new Stratahold();
            Checks.write(x, text);
            for (int life : new int[] {-1, 101, Integer.MIN_VALUE, Integer.MAX_VALUE}) {
                Checks.dueThrow("add(" + life + ") of " + text, ARGUMENT, () -> x.add(life));
            }
            int first = x.add(100);
            Checks.due("add(0) of " + text, x.add(0), text.equals("a(1).") ? first : first + 1);
        }
        Stratahold y = Checks.with("a(1).");
        Checks.write(y, "b(X):a(X).");
        y.add(1);
        Checks.write(y, ":b(9).");
        y.add(1);
        Checks.write(y, "?c(X):a(X).");
        y.add(1);
        Checks.due("a tick", y.tick(5), 0);
        Checks.dueModel("rules and choices have no life", y, "a(1) b(1) c(1)");
    }

    private static void answersOfAdd() {
        Checks.says("Returns the number of the rule, constraint or choice; for a fact how many facts are told then.");
        Stratahold x = new Stratahold();
        dueAdd(x, "a(1).", 1);
        dueAdd(x, "b(X):a(X).", 0);
        dueAdd(x, "b(1).", 2);
        dueAdd(x, "a(01).", 2);
        dueAdd(x, ":z(1).", 1);
        dueAdd(x, "?c(X):a(X).", 2);
        dueAdd(x, "c(2).", 3);
        Checks.says("tells a fact, or adds a rule, a constraint or a choice; the text stays.");
        Checks.due("the text", x.textError(), Stratahold.NONE);
        Checks.due("it is that", x.place(), 3);
        Checks.due("its signs", x.clearText(), 5);
    }

    private static void withdrawals() {
        Checks.says("if the text is no fact, or this is not told");
        Stratahold x = Checks.with("a(1). a(2). a(3). b(X):a(X). ?c(X):a(X). :b(9).");
        for (String text : new String[] {"", "a(1)", "a(1", "a(1).a", "b(X):a(X).", "?c(X):a(X).", ":b(9).", "a(X).", "a(A).",
            "a(4).", "b(1).", "c(1).", "a(1,1).", "z(1).", "a(s[s[s[s[1]]]])."}) {
            Checks.write(x, text);
            Checks.dueThrow("withdraw of " + text, ELEMENT, x::withdraw);
        }
        Checks.says("Returns how many facts are told then.");
        Checks.due("the first", Checks.withdraw(x, "a(01)."), 2);
        Checks.due("the text stays", x.textError(), Stratahold.NONE);
        Checks.dueThrow("the first again", ELEMENT, x::withdraw);
        Checks.due("the last", Checks.withdraw(x, "a(3)."), 1);
        Checks.due("the only one", Checks.withdraw(x, "a(2)."), 0);
        Checks.dueModel("nothing is left", x, "");
        Checks.says("if it is owned by another module, or refused by 6 to 8");
        Stratahold y = Checks.with("a(1). e(0). e(1). e(2). e(3). e(4). e(5). b(1). p(X,Y):e(X),e(Y),!a(1). :!b(1).");
        y.own('a');
        Checks.dueThrow("6", STATE, () -> Checks.withdraw(y, "a(1)."));
        Checks.dueThrow("7", STATE, () -> Checks.withdraw(y, "b(1)."));
        Checks.add(y, "?c(X):z(X).");
        Checks.dueThrow("8", STATE, () -> Checks.withdraw(y, "b(1)."));
        y.speak(1);
        Checks.dueThrow("of another module", STATE, () -> Checks.withdraw(y, "a(1)."));
        Checks.dueThrow("what is not told of another module", ELEMENT, () -> Checks.withdraw(y, "a(2)."));
        Checks.due("what no one owns", Checks.withdraw(y, "e(0)."), 7);
        y.drop(0);
        y.speak(0);
        Checks.due("what the own module owns", Checks.withdraw(y, "a(1)."), 6);
    }

    private static void drops() {
        Checks.says("Drops a rule, a constraint or a choice. Returns how many there are then.");
        Stratahold x = Checks.with("a(1). b(X):a(X). :z(1). ?c(X):a(X).");
        Checks.says("Throws `IndexOutOfBoundsException` as told, also if it was dropped");
        for (int rule : new int[] {-1, 3, 11, 12, Integer.MIN_VALUE, Integer.MAX_VALUE}) {
            Checks.dueThrow("drop(" + rule + ")", INDEX, () -> x.drop(rule));
        }
        Checks.due("the last", x.drop(2), 2);
        Checks.dueThrow("the last again", INDEX, () -> x.drop(2));
        Checks.due("the first", x.drop(0), 1);
        Checks.dueThrow("the first again", INDEX, () -> x.drop(0));
        Checks.due("the only one", x.drop(1), 0);
        Checks.dueThrow("none is left", INDEX, () -> x.drop(1));
        Checks.dueModel("none is left", x, "a(1)");
        Checks.says("if the predicate of its head is owned by another module, or it is refused by 6 to 8");
        Stratahold y = Checks.with("e(0). e(1). e(2). e(3). e(4). e(5). a(1):e(1). p(X,Y):e(X),e(Y),!a(1). b(1):e(1). :!b(1). ?d(X):e(X).");
        Checks.dueThrow("6", STATE, () -> y.drop(0));
        Checks.dueThrow("8", STATE, () -> y.drop(2));
        Checks.due("the choice", y.drop(4), 4);
        Checks.dueThrow("7", STATE, () -> y.drop(2));
        y.own('b');
        y.own('z');
        y.own('e');
        dueAdd(y, "?b(X):e(X).", 5);
        y.speak(2);
        Checks.dueThrow("a rule of another module", STATE, () -> y.drop(2));
        Checks.dueThrow("a choice of another module", STATE, () -> y.drop(5));
        Checks.dueThrow("no rule of another module", INDEX, () -> y.drop(6));
        Checks.due("a constraint with what another module owns", y.drop(3), 4);
        Checks.due("a rule with what another module owns in its body", y.drop(1), 3);
    }

    private static void numbers() {
        Checks.says("Rules, constraints and choices are numbered together from 0, in the order in which they were added; "
                + "one that was dropped keeps its number, and counts to the 12 no more.");
        Stratahold x = new Stratahold();
        for (int i = 0; i < 30; i++) {
            dueAdd(x, i % 3 == 0 ? "a(1):b(1)." : i % 3 == 1 ? ":b(1)." : "?c(1):b(1).", i);
            if (i >= 11) {
                dueNoAdd(x, ":z(1).", 5);
                Checks.due("drop(" + (i - 11) + ")", x.drop(i - 11), 11);
            }
        }
        Checks.dueThrow("one that was dropped", INDEX, () -> x.drop(18));
        Checks.due("one that is there", x.drop(19), 10);
        Checks.due("the last one", x.drop(29), 9);
        dueAdd(x, ":b(1).", 30);
        Stratahold y = Checks.with("a(1). b(X):a(X).");
        dueNoAdd(y, "c(X):b(Y).", 2);
        dueNoAdd(y, ":b(X).", 7);
        Checks.refusal(y, "c(X):b(X).");
        dueAdd(y, "c(X):b(X).", 1);
    }

    private static void ticks() {
        Checks.says("Lets ticks go by, one after the other, facts whose life is over going at each one. - `ticks`: 1 to 5");
        Stratahold x = new Stratahold();
        for (int ticks : new int[] {0, 6, -1, Integer.MIN_VALUE, Integer.MAX_VALUE}) {
            Checks.dueThrow("tick(" + ticks + ")", ARGUMENT, () -> x.tick(ticks));
        }
        Checks.says("Returns how many facts that were told went.");
        for (int life = 1; life <= 15; life++) {
            Checks.add(x, "a(" + life + ").", life);
        }
        Checks.add(x, "b(X):a(X).");
        int left = 15;
        for (int ticks = 1; ticks <= 5; ticks++) {
            Checks.due("tick(" + ticks + ")", x.tick(ticks), ticks);
            left -= ticks;
            Checks.due("facts then", x.facts(), 2 * left);
        }
        Checks.says("Throws `IllegalStateException` if changes are made together, the tick would be above 1000, "
                + "or the change at one of the ticks would be refused by 6 to 8");
        x.begin();
        Checks.dueThrow("together", STATE, () -> x.tick(1));
        x.rollBack();
        Checks.due("not together", x.tick(1), 0);
        Stratahold[] each = {Checks.with("e(0). e(1). e(2). e(3). e(4). e(5). a(1). p(X,Y):e(X),e(Y),!a(1)."),
            Checks.with("a(1). :!a(1)."), Checks.with("a(1). :!a(1). ?c(X):z(X).")};
        for (Stratahold z : each) {
            Checks.add(z, "a(1).", 3);
            int facts = z.facts();
            Checks.dueThrow("five ticks", STATE, () -> z.tick(5));
            Checks.dueThrow("three ticks", STATE, () -> z.tick(3));
            Checks.due("two ticks", z.tick(2), 0);
            Checks.dueThrow("the third", STATE, () -> z.tick(1));
            Checks.due("it is there", z.facts(), facts);
        }
        Checks.due("told anew, for ever", Checks.add(each[1], "a(1).", 0), 1);
        Checks.due("then", each[1].tick(5), 0);
    }

    private static void lastTick() {
        Checks.says("the tick would be above 1000");
        for (int ticks = 1; ticks <= 5; ticks++) {
            int many = ticks;
            Stratahold x = Checks.with("a(1). r(X):a(X)^99.");
            for (int i = 0; i < 199; i++) {
                x.tick(5);
            }
            for (int i = 0; i < 5 - ticks; i++) {
                x.tick(1);
            }
            for (int above = ticks + 1; above <= 5; above++) {
                int tooMany = above;
                Checks.dueThrow(above + " ticks", STATE, () -> x.tick(tooMany));
            }
            Checks.due("to the tick 1000", x.tick(many), 0);
            Checks.dueThrow("one more", STATE, () -> x.tick(1));
            Checks.add(x, "a(2).", 1);
            Checks.dueThrow("one more, with a life of 1", STATE, () -> x.tick(1));
            Checks.dueModel("at the last tick", x, "a(1) a(2) r(2)");
        }
    }

    private static void beginnings() {
        Checks.says("Throws `IllegalStateException` if that is begun");
        Stratahold x = new Stratahold();
        for (int i = 0; i < 3; i++) {
            x.begin();
            Checks.dueThrow("begin again", STATE, () -> Checks.nothing(x::begin));
            Checks.dueThrow("begin a third time", STATE, () -> Checks.nothing(x::begin));
            if (i == 0) {
                Checks.due("its end", x.commit(), 0);
            } else {
                x.rollBack();
            }
        }
    }

    private static void ends() {
        Checks.says("Throws `IllegalStateException` if it is not begun");
        Stratahold x = Checks.with("a(1). :z(1).");
        Checks.dueThrow("commit", STATE, x::commit);
        Checks.dueThrow("rollBack", STATE, () -> Checks.nothing(x::rollBack));
        x.begin();
        Checks.due("commit of nothing", x.commit(), 0);
        Checks.dueThrow("commit again", STATE, x::commit);
        Checks.dueThrow("rollBack then", STATE, () -> Checks.nothing(x::rollBack));
        x.begin();
        Checks.add(x, "z(1).");
        Checks.due("a commit that is refused", x.commit(), 7);
        Checks.dueThrow("commit again", STATE, x::commit);
        Checks.dueThrow("rollBack then", STATE, () -> Checks.nothing(x::rollBack));
        x.begin();
        x.rollBack();
        Checks.dueThrow("rollBack again", STATE, () -> Checks.nothing(x::rollBack));
        Checks.dueThrow("commit then", STATE, x::commit);
        Checks.dueModel("all the while", x, "a(1)");
    }

    private static void oneToFiveAlone() {
        Checks.says("from begin() on each one is looked at for 1 to 5 alone, and done;");
        Stratahold x = Checks.with("a(1). :z(1). o(1). e(0). e(1). e(2). q(1):!o(7).");
        x.own('o');
        x.speak(1);
        x.begin();
        dueNoAdd(x, "a(1)", 1);
        dueNoAdd(x, "a(X).", 2);
        dueNoAdd(x, "b(1):!b(1).", 3);
        dueNoAdd(x, "o(2).", 4);
        Checks.dueThrow("withdraw", STATE, () -> Checks.withdraw(x, "o(1)."));
        Checks.dueRefusal(x, "z(1).", 0);
        dueAdd(x, "z(1).", 6);
        Checks.dueRefusal(x, "p(X,Y,Z):e(X),e(Y),e(Z).", 0);
        dueAdd(x, "p(X,Y,Z):e(X),e(Y),e(Z).", 2);
        dueAdd(x, "?p(X,Y,Z):a(X),e(Y),e(Z).", 3);
        dueAdd(x, "b(1):a(1).", 4);
        dueNoAdd(x, "a(1):!b(1).", 3);
        Checks.due("drop", x.drop(4), 4);
        dueAdd(x, "a(1):!b(1).", 5);
        Checks.due("withdraw", Checks.withdraw(x, "e(0)."), 5);
        Checks.dueThrow("withdraw again", ELEMENT, x::withdraw);
        for (int i = 6; i <= 12; i++) {
            dueAdd(x, ":z(1).", i);
        }
        dueNoAdd(x, ":z(1).", 5);
        dueNoAdd(x, "b(1):e(1).", 5);
        for (int i = 6; i <= 24; i++) {
            dueAdd(x, "f(" + i + ").", i);
        }
        dueNoAdd(x, "f(1).", 5);
        dueAdd(x, "f(7).", 24);
        Checks.due("withdraw", Checks.withdraw(x, "f(7)."), 23);
        dueAdd(x, "f(1).", 24);
        Checks.due("drop", x.drop(0), 11);
        Checks.dueThrow("drop again", INDEX, () -> x.drop(0));
        Checks.dueModel("all the while", x, "a(1) e(0) e(1) e(2) o(1) q(1)");
        Checks.due("the end", x.commit(), 6);
        Checks.dueModel("then", x, "a(1) e(0) e(1) e(2) o(1) q(1)");
    }

    private static void inBetween() {
        Checks.says("In between the model is that of begin(), and ticks cannot go by.");
        Stratahold x = Checks.with("a(1). a(2). b(X):a(X). ?c(X):a(X).");
        x.begin();
        Checks.add(x, "a(3).");
        Checks.withdraw(x, "a(1).");
        x.drop(0);
        Checks.add(x, "d(X):a(X).");
        Checks.dueModel("it is that of begin()", x, "a(1) a(2) b(1) b(2) c(1)");
        String[] facts = {"a(1).", "a(2).", "b(1).", "b(2).", "c(1)."};
        int[] why = {Stratahold.TOLD, Stratahold.TOLD, 0, 0, Stratahold.CHOSEN};
        for (int place = 0; place < 5; place++) {
            Checks.due("the place of " + facts[place], Checks.place(x, facts[place]), place);
            Checks.due("standsAnew of it", x.standsAnew(), true);
            Checks.due("matches of it", x.matches(), 1);
            Checks.due("matchesByGoals of it", x.matchesByGoals(), 1);
            Checks.dueThrow("whyNot of it", ELEMENT, x::whyNot);
            Checks.due("reasons of it", x.reasons(place), 1);
            Checks.due("least of it", x.least(place), why[place] == 0 ? 2 : 1);
            Checks.due("why of it", x.why(place), why[place]);
        }
        Checks.due("what is told since", Checks.has(x, "a(3)."), false);
        Checks.due("standsAnew of it", x.standsAnew(), false);
        Checks.due("a rule that is dropped since", Checks.matches(x, "b(X)."), 2);
        Checks.due("by goals", x.matchesByGoals(), 2);
        Checks.due("a rule that is added since", Checks.matches(x, "d(X)."), 0);
        Checks.due("by goals", x.matchesByGoals(), 0);
        for (int ticks = 1; ticks <= 5; ticks++) {
            int many = ticks;
            Checks.dueThrow(ticks + " ticks", STATE, () -> x.tick(many));
        }
        Checks.due("the end", x.commit(), 0);
        Checks.dueModel("then", x, "a(2) a(3) c(2) d(2) d(3)");
        Checks.due("a tick then", x.tick(1), 0);
    }

    private static void sixToEight() {
        Checks.says("Returns why they are refused, 6 to 8; 0 if they are not.");
        String begin = "e(0). e(1). e(2). e(3). :z(1). ";
        Stratahold x = Checks.with(begin);
        x.begin();
        Checks.addAll(x, "z(1). p(X,Y,Z):e(X),e(Y),e(Z).");
        Checks.due("too big and broken", x.commit(), 6);
        x.begin();
        Checks.addAll(x, "z(1). p(X,Y):e(X),e(Y).");
        Checks.due("broken", x.commit(), 7);
        x.begin();
        Checks.addAll(x, "z(1). ?p(X,Y):e(X),e(Y).");
        Checks.due("broken, with a choice", x.commit(), 8);
        x.begin();
        Checks.addAll(x, "z(1). p(X,Y,Z):e(X),e(Y),e(Z). ?p(X,Y):e(X),e(Y).");
        Checks.withdraw(x, "z(1).");
        x.drop(1);
        Checks.due("taken back one by one", x.commit(), 0);
        Checks.dueModel("then", x, "e(0) e(1) e(2) e(3) p(0,0) p(1,0) p(2,0) p(3,0)");
        dueAdd(x, ":p(3,0).", 3);
        Stratahold y = Checks.with(begin + "b(1). a(1). :a(1),!b(1).");
        Checks.dueThrow("one ahead of the other", STATE, () -> Checks.withdraw(y, "b(1)."));
        y.begin();
        Checks.withdraw(y, "b(1).");
        Checks.withdraw(y, "a(1).");
        Checks.due("both together", y.commit(), 0);
        Checks.dueModel("then", y, "e(0) e(1) e(2) e(3)");
    }

    private static void modules() {
        Checks.says("There are the modules 0 to 3; one is speaking, 0 at first.");
        Stratahold x = new Stratahold();
        for (int module : new int[] {-1, 4, Integer.MIN_VALUE, Integer.MAX_VALUE}) {
            Checks.dueThrow("speak(" + module + ")", INDEX, () -> x.speak(module));
        }
        Checks.says("Lets a module speak. - `module`: 0 to 3 Returns the one that spoke before.");
        int before = 0;
        for (int module : new int[] {3, 3, 0, 1, 2, 1, 0}) {
            Checks.due("speak(" + module + ")", x.speak(module), before);
            before = module;
        }
    }

    private static void letters() {
        Checks.says("Lets the module that is speaking own a letter. - `letter`: a to z");
        Stratahold x = new Stratahold();
        for (char letter : new char[] {'a' - 1, 'z' + 1, 'A', 'Z', '0', 0, 65535, 256 + 'a'}) {
            Checks.dueThrow("own " + (int) letter, ARGUMENT, () -> Checks.nothing(() -> x.own(letter)));
        }
        Checks.says("Throws `IllegalStateException` if another one owns it");
        for (int module = 0; module < 4; module++) {
            char letter = "azmn".charAt(module);
            x.speak(module);
            x.own(letter);
            x.own(letter);
            for (int other = 0; other < 4; other++) {
                x.speak(other);
                if (other == module) {
                    x.own(letter);
                } else {
                    Checks.dueThrow("own " + letter, STATE, () -> Checks.nothing(() -> x.own(letter)));
                }
                Checks.dueRefusal(x, letter + "(1).", other == module ? 0 : 4);
            }
        }
    }

    private static void whatIsOwned() {
        Checks.says("only when this is speaking facts of its predicates are told and withdrawn, and rules and choices with "
                + "such heads added and dropped.");
        Stratahold x = Checks.with("a(1). a(1,1). a(1,1,1). a(2):b(1). ?a(X,X):b(X). :a(9). b(1). c(1):a(1).");
        x.speak(2);
        x.own('a');
        for (int module = 0; module < 4; module++) {
            x.speak(module);
            int refusal = module == 2 ? 0 : 4;
            for (String text : new String[] {"a(1).", "a(5).", "a(5,5).", "a(5,5,5).", "a(5):b(1).", "?a(5,X):b(X).", "a(5,5,5):b(1)."}) {
                Checks.dueRefusal(x, text, refusal);
            }
            for (String text : new String[] {"b(5).", "b(5):a(1).", "?d(5):a(1),!a(7).", ":a(7).", "?c(X):a(X)."}) {
                Checks.dueRefusal(x, text, 0);
            }
            if (module != 2) {
                for (String text : new String[] {"a(1).", "a(1,1).", "a(1,1,1)."}) {
                    Checks.dueThrow("withdraw of " + text, STATE, () -> Checks.withdraw(x, text));
                }
                Checks.dueThrow("drop of a rule", STATE, () -> x.drop(0));
                Checks.dueThrow("drop of a choice", STATE, () -> x.drop(1));
            }
        }
        Checks.due("drop of a constraint", x.drop(2), 3);
        Checks.due("drop of a rule that rests on it", x.drop(3), 2);
        x.speak(2);
        Checks.due("drop of the own rule", x.drop(0), 1);
        Checks.due("drop of the own choice", x.drop(1), 0);
        Checks.due("withdraw of the own", Checks.withdraw(x, "a(1,1)."), 3);
        x.speak(0);
        Checks.add(x, "z(1).", 1);
        x.speak(1);
        x.own('z');
        x.speak(0);
        Checks.due("it goes, whoever speaks", x.tick(1), 1);
    }

    private static void firstNamedExceptions() {
        Checks.says("If several apply, the one that is named first in the throws clause is thrown;");
        Stratahold x = Checks.with("a(1). o(1). o(2):a(1).");
        x.own('o');
        x.speak(1);
        Checks.write(x, "o(5).");
        Checks.dueThrow("add(101) of what is refused", ARGUMENT, () -> x.add(101));
        Checks.dueThrow("add(-1) of what is refused", ARGUMENT, () -> x.add(-1));
        Checks.dueThrow("withdraw of what is not told, of another module", ELEMENT, x::withdraw);
        Checks.dueThrow("own of no letter", ARGUMENT, () -> Checks.nothing(() -> x.own('O')));
        Checks.dueThrow("argument of no place", INDEX, () -> x.argument(99, 7));
        Checks.dueThrow("argument of no place", INDEX, () -> x.argument(-1, -1));
        Checks.dueThrow("no argument", ARGUMENT, () -> x.argument(0, 3));
        x.begin();
        Checks.dueThrow("tick(0) together", ARGUMENT, () -> x.tick(0));
        Checks.dueThrow("tick(6) together", ARGUMENT, () -> x.tick(6));
        x.rollBack();
        x.speak(0);
        x.drop(0);
        x.speak(1);
        Checks.dueThrow("drop of what was dropped, of another module", INDEX, () -> x.drop(0));
        for (int i = 0; i < 200; i++) {
            x.tick(5);
        }
        Checks.dueThrow("tick(6) at the end", ARGUMENT, () -> x.tick(6));
        Checks.dueThrow("tick(0) at the end", ARGUMENT, () -> x.tick(0));
    }
}
