import java.util.NoSuchElementException;

/** The edges that the document names at the calls that ask: the model, reasons, least proofs, and why not. */
public final class EdgesOfQuestionsTest {
    private static final Class<IllegalArgumentException> ARGUMENT = IllegalArgumentException.class;
    private static final Class<IllegalStateException> STATE = IllegalStateException.class;
    private static final Class<IndexOutOfBoundsException> INDEX = IndexOutOfBoundsException.class;
    private static final Class<NoSuchElementException> ELEMENT = NoSuchElementException.class;

    public static void main(String[] args) {
        facts();
        places();
        predicates();
        arguments();
        factsOfTheText();
        likeTheAtom();
        byGoals();
        strataAndRounds();
        deltas();
        constants();
        instances();
        whatIsAReason();
        leastProofs();
        onceForEachAtom();
        asManyAsItTells();
        atMostAMillion();
        lowestRules();
        whyNotThrows();
        heads();
        literals();
        Checks.end();
    }

    private static Stratahold numbered(int facts, String more) {
        Stratahold x = new Stratahold();
        for (int i = 0; i < facts; i++) {
            Checks.add(x, "a(" + i + ").");
        }
        return Checks.addAll(x, more);
    }

    private static void facts() {
        Checks.says("Returns how many facts the model has.");
        Checks.due("none", new Stratahold().facts(), 0);
        Checks.due("one", Checks.with("a(1).").facts(), 1);
        Checks.due("the most", numbered(16, "b(X):a(X).").facts(), 32);
        Checks.says("Returns how many facts the model has, found by naive rounds in which all rules are tried with all facts.");
        Checks.due("none", new Stratahold().factsAnew(), 0);
        Checks.due("one", Checks.with("a(1).").factsAnew(), 1);
        Checks.due("the most", numbered(16, "b(X):a(X).").factsAnew(), 32);
        Checks.due("chosen ones", numbered(5, "?b(X):a(X). :b(0). c(X):b(X). d(X):a(X),!c(X).").factsAnew(), 5 + 1 + 1 + 4);
    }

    private static void places() {
        Checks.says("IndexOutOfBoundsException: there is no such place, stratum, round, rule or module.");
        Stratahold[] each = {new Stratahold(), Checks.with("a(1)."), numbered(3, "b(X):a(X). ?c(X):a(X)."), numbered(16, "b(X):a(X).")};
        int[] facts = {0, 1, 7, 32};
        for (int i = 0; i < each.length; i++) {
            Stratahold x = each[i];
            for (int place : new int[] {-1, facts[i], facts[i] + 1, Integer.MIN_VALUE, Integer.MAX_VALUE}) {
                Checks.dueThrow("predicate(" + place + ")", INDEX, () -> x.predicate(place));
                Checks.dueThrow("argument(" + place + ", 0)", INDEX, () -> x.argument(place, 0));
                Checks.dueThrow("stratum(" + place + ")", INDEX, () -> x.stratum(place));
                Checks.dueThrow("round(" + place + ")", INDEX, () -> x.round(place));
                Checks.dueThrow("reasons(" + place + ")", INDEX, () -> x.reasons(place));
                Checks.dueThrow("least(" + place + ")", INDEX, () -> x.least(place));
                Checks.dueThrow("why(" + place + ")", INDEX, () -> x.why(place));
            }
            if (facts[i] > 0) {
                int last = facts[i] - 1;
                Checks.due("the first predicate", x.predicate(0), 1);
                Checks.due("the last predicate", x.predicate(last), new int[] {0, 1, 9, 5}[i]);
                Checks.due("the last argument", x.argument(last, 0), new int[] {0, 1, 0, 15}[i]);
                Checks.due("the last stratum", x.stratum(last), i == 2 ? 1 : 0);
                Checks.due("the last round", x.round(last), i == 3 ? 1 : 0);
                Checks.due("the last reasons", x.reasons(last), 1);
                Checks.due("the last least proof", x.least(last), i == 3 ? 2 : 1);
                Checks.due("the last why", x.why(last), new int[] {0, Stratahold.TOLD, Stratahold.CHOSEN, 0}[i]);
            }
        }
    }

    private static void predicates() {
        Checks.says("Returns 4 times the place of its letter, and how many arguments it has, together.");
        String[] facts = {"a(1).", "a(1,1).", "a(1,1,1).", "b(1).", "y(1,1,1).", "z(1).", "z(1,1).", "z(1,1,1)."};
        int[] due = {1, 2, 3, 5, 99, 101, 102, 103};
        for (int i = 0; i < facts.length; i++) {
            Checks.due("predicate of " + facts[i], Checks.with(facts[i]).predicate(0), due[i]);
        }
    }

    private static void arguments() {
        Checks.says("- `argument`: 0 to 2 Returns its code; NONE if there is none.");
        String[] facts = {"a(7).", "a(7,8).", "a(7,8,9)."};
        for (int many = 1; many <= 3; many++) {
            Stratahold x = Checks.with(facts[many - 1]);
            for (int argument = 0; argument < 3; argument++) {
                Checks.due("argument " + argument, x.argument(0, argument), argument < many ? 7 + argument : Stratahold.NONE);
            }
            for (int argument : new int[] {-1, 3, Integer.MIN_VALUE, Integer.MAX_VALUE}) {
                Checks.dueThrow("argument(0, " + argument + ")", ARGUMENT, () -> x.argument(0, argument));
                Checks.dueThrow("argument(1, " + argument + ")", INDEX, () -> x.argument(1, argument));
            }
        }
    }

    private static void factsOfTheText() {
        Checks.says("Throws `IllegalStateException` if the text is no fact without variables");
        Stratahold x = Checks.with("a(1). a(2,s[b]). b(X):a(X).");
        for (String text : new String[] {"", "a(1)", "a(1).a", "a(1):a(1).", "?a(1):b(1).", ":a(1).", "a(X).", "a(2,s[X]).", "a(A)."}) {
            Checks.write(x, text);
            Checks.dueThrow("place of " + text, STATE, x::place);
            Checks.dueThrow("standsAnew of " + text, STATE, () -> x.standsAnew() ? 1 : 0);
            Checks.dueThrow("whyNot of " + text, STATE, x::whyNot);
        }
        Checks.says("Returns the place; NONE if it is not in it.");
        String[] facts = {"a(1).", "a(01).", "a(2,s[b]).", "b(1).", "a(0).", "a(2).", "a(1,1).", "a(2,s[c]).", "b(2).", "z(1).", "a(2,b)."};
        int[] due = {0, 0, 1, 2, -1, -1, -1, -1, -1, -1, -1};
        for (int i = 0; i < facts.length; i++) {
            Checks.due("place of " + facts[i], Checks.place(x, facts[i]), due[i]);
            Checks.due("standsAnew of " + facts[i], x.standsAnew(), due[i] >= 0);
        }
        Checks.due("the first of none", Checks.place(new Stratahold(), "a(1)."), Stratahold.NONE);
        Stratahold full = numbered(16, "b(X):a(X).");
        Checks.due("the last of 32", Checks.place(full, "b(15)."), 31);
        Checks.due("the one behind it", Checks.place(full, "b(16)."), Stratahold.NONE);
        full.own('b');
        full.speak(1);
        Checks.due("of another module", Checks.place(full, "b(0)."), 16);
    }

    private static void dueLike(Stratahold x, String text, int want) {
        Checks.due("matches of " + text, Checks.matches(x, text), want);
        Checks.due("matchesByGoals of " + text, x.matchesByGoals(), want);
    }

    private static void likeTheAtom() {
        Checks.says("Throws `IllegalStateException` if the text is no fact, with variables or without");
        Stratahold x = Checks.with("a(1). a(2). a(b). e(1,2). e(2,2). e(s[2],2). e(1,1,2). b(X):a(X).");
        for (String text : new String[] {"", "a(X)", "a(X).a", "a(X):a(X).", "?a(1):b(1).", ":a(1).", "!a(1).", "2*a(X)."}) {
            Checks.write(x, text);
            Checks.dueThrow("matches of " + text, STATE, x::matches);
            Checks.dueThrow("matchesByGoals of " + text, STATE, x::matchesByGoals);
        }
        Checks.says("two that are the same stand for the same value.");
        dueLike(x, "e(X,X).", 1);
        dueLike(x, "e(X,Y).", 3);
        dueLike(x, "e(s[X],X).", 1);
        dueLike(x, "e(X,X,Y).", 1);
        dueLike(x, "e(X,Y,Y).", 0);
        dueLike(x, "e(Y,X,Z).", 1);
        Checks.says("Returns how many facts of the model are like the atom of the text, which may have variables;");
        dueLike(x, "a(X).", 3);
        dueLike(x, "b(Z).", 3);
        dueLike(x, "a(1).", 1);
        dueLike(x, "a(3).", 0);
        dueLike(x, "e(X).", 0);
        dueLike(x, "e(s[X],Y).", 1);
        dueLike(x, "e(s[s[X]],Y).", 0);
        madeOnes();
        dueLike(x, "e(X,2).", 3);
        dueLike(new Stratahold(), "a(X).", 0);
        Stratahold full = numbered(16, "b(X):a(X).");
        dueLike(full, "b(X).", 16);
        dueLike(numbered(8, "a(s[X]):a(X)."), "a(X).", 32);
    }

    /** The first and the last letter, and the first and the last variable, around and in one another. */
    private static void madeOnes() {
        Stratahold x = Checks.with("e(a[1],a[1]). e(z[1],1). e(a[z[1]],1). e(z[a[1]],1). e(a[a[a[1]]],a[a[1]]). e(b[1],b[2]).");
        for (String v : new String[] {"A", "B", "Y", "Z"}) {
            dueLike(x, "e(a[" + v + "],C).", 3);
            dueLike(x, "e(z[" + v + "],C).", 2);
            dueLike(x, "e(b[" + v + "],C).", 1);
            dueLike(x, "e(y[" + v + "],C).", 0);
            dueLike(x, "e(a[z[" + v + "]]," + v + ").", 1);
            dueLike(x, "e(z[a[" + v + "]]," + v + ").", 1);
            dueLike(x, "e(a[" + v + "],a[" + v + "]).", 1);
            dueLike(x, "e(a[" + v + "]," + v + ").", 1);
            dueLike(x, "e(a[a[" + v + "]],C).", 1);
            dueLike(x, "e(a[a[a[" + v + "]]],C).", 1);
            dueLike(x, "e(a[a[z[" + v + "]]],C).", 0);
            dueLike(x, "e(b[" + v + "],b[" + v + "]).", 0);
        }
    }

    private static void byGoals() {
        Checks.says("Returns the same, found by asking: goals with what is bound in them, from rule to rule, each goal once, "
                + "round by round; what is below ! and what counts is looked up in the model.");
        Stratahold x = Checks.with("e(1,2). e(2,3). e(3,1). t(X,Z):t(X,Y),t(Y,Z). t(X,Y):e(X,Y). u(X):t(X,X),!e(X,X). n(N):N~n(t(X,Y)). "
                + "w(X):e(X,Y),3*t(X,Z). ?c(X):u(X). d(X):c(X)^1. d(X):c(X). l(X):l(X). m(X):l(X),e(X,Y).");
        dueLike(x, "t(X,Y).", 9);
        dueLike(x, "t(1,X).", 3);
        dueLike(x, "t(X,X).", 3);
        dueLike(x, "u(X).", 3);
        dueLike(x, "n(9).", 1);
        dueLike(x, "n(X).", 1);
        dueLike(x, "w(X).", 3);
        dueLike(x, "c(X).", 1);
        dueLike(x, "d(X).", 1);
        dueLike(x, "d(2).", 0);
        dueLike(x, "l(X).", 0);
        dueLike(x, "m(X).", 0);
        Stratahold y = Checks.with("g(1). g(s[X]):g(X). h(X):g(s[X]). k(s[X]):k(X). k(X):h(X),g(X).");
        dueLike(y, "g(X).", 4);
        dueLike(y, "h(X).", 3);
        dueLike(y, "k(X).", 4);
        dueLike(y, "k(s[s[X]]).", 2);
        dueLike(y, "g(s[s[s[1]]]).", 1);
        dueLike(y, "g(s[s[s[2]]]).", 0);
        Stratahold z = Checks.with("e(1,2). f(2,3). e(X,Y):f(X,Y). e(X,Y):f(Y,X). g(X):e(X,Y).");
        Checks.write(z, "e(X,Y).");
        Checks.due("by goals at first", z.matchesByGoals(), 3);
        dueLike(z, "f(X,Y).", 1);
        dueLike(z, "g(X).", 3);
        z.drop(2);
        dueLike(z, "g(X).", 0);
        z.drop(1);
        dueLike(z, "e(X,Y).", 2);
        Checks.withdraw(z, "e(1,2).");
        dueLike(z, "e(X,Y).", 1);
        Checks.withdraw(z, "f(2,3).");
        dueLike(z, "e(X,Y).", 0);
    }

    private static void strataAndRounds() {
        Checks.says("Returns in which round of its stratum a fact of the model came.");
        Stratahold x = Checks.with("a(1). b(X):a(X),!z(X). c(X):b(X). c(2).");
        int[][] due = {{0, 0}, {1, 1}, {1, 2}, {1, 0}};
        for (int place = 0; place < 4; place++) {
            Checks.due("stratum(" + place + ")", x.stratum(place), due[place][0]);
            Checks.due("round(" + place + ")", x.round(place), due[place][1]);
        }
        Checks.says("Returns the stratum of the predicate of a fact of the model.");
        Stratahold top = new Stratahold();
        for (int i = 12; i > 0; i--) {
            Checks.add(top, (char) ('a' + i) + "(X):" + (char) ('a' + i - 1) + "(X),!" + (char) ('a' + i - 1) + "(s[X]).");
        }
        Checks.add(top, "a(1).");
        for (int i = 0; i <= 12; i++) {
            Checks.due("stratum(" + i + ")", top.stratum(i), i);
            Checks.due("delta(" + i + ", 0)", top.delta(i, 0), i == 0 ? 1 : 0);
            Checks.due("delta(" + i + ", 1)", top.delta(i, 1), i == 0 ? 0 : 1);
        }
    }

    private static void deltas() {
        Checks.says("Returns how many facts came in a round of a stratum. - `stratum`: 0 to 12 - `round`: 0 to 100");
        for (Stratahold x : new Stratahold[] {new Stratahold(), numbered(16, "b(X):a(X).")}) {
            int facts = x.facts() / 2;
            int[] wrong = {-1, 13, Integer.MIN_VALUE, Integer.MAX_VALUE};
            for (int stratum : wrong) {
                Checks.dueThrow("delta(" + stratum + ", 0)", INDEX, () -> x.delta(stratum, 0));
                Checks.dueThrow("delta(" + stratum + ", 101)", INDEX, () -> x.delta(stratum, 101));
            }
            for (int round : new int[] {-1, 101, Integer.MIN_VALUE, Integer.MAX_VALUE}) {
                Checks.dueThrow("delta(0, " + round + ")", INDEX, () -> x.delta(0, round));
                Checks.dueThrow("delta(12, " + round + ")", INDEX, () -> x.delta(12, round));
            }
            int sum = 0;
            for (int stratum = 0; stratum <= 12; stratum++) {
                for (int round = 0; round <= 100; round += round < 4 ? 1 : 24) {
                    sum += x.delta(stratum, round);
                }
            }
            Checks.due("all together", sum, 2 * facts);
            Checks.due("delta(0, 0)", x.delta(0, 0), facts);
            Checks.due("delta(0, 1)", x.delta(0, 1), facts);
            Checks.due("delta(12, 100)", x.delta(12, 100), 0);
        }
    }

    private static void constants() {
        Checks.says("`NONE = -1`: There is none. `TOLD = -2, CHOSEN = -3`: Reasons without a rule.");
        Checks.due("NONE", Stratahold.NONE, -1);
        Checks.due("TOLD", Stratahold.TOLD, -2);
        Checks.due("CHOSEN", Stratahold.CHOSEN, -3);
    }

    private static void due(Stratahold x, String fact, int reasons, int least, int why) {
        int place = Checks.place(x, fact);
        Checks.due("reasons of " + fact, x.reasons(place), reasons);
        Checks.due("least of " + fact, x.least(place), least);
        Checks.due("why of " + fact, x.why(place), why);
    }

    private static void instances() {
        Checks.says("An instance of a rule is the values of all variables that are no own ones with which its body holds in the model.");
        Stratahold x = numbered(3, "b(1):a(X). b(2):a(X),a(Y). b(3):a(X),a(X). b(4):2*a(X). b(5):a(X),2*a(Y). b(6):N~n(a(X)). "
                + "b(7):a(X),N~s(Y;a(Y)). b(8):a(X),Y~X+1. b(9):a(X),Y~X+1,a(Y). b(10):a(X)^5,a(0). b(X):a(X),X#X. b(11):a(0),a(1).");
        int[] due = {3, 9, 3, 1, 3, 1, 3, 3, 2, 3, 1};
        int[] least = {2, 3, 3, 3, 4, 1, 2, 2, 3, 3, 3};
        int[] rules = {0, 1, 2, 3, 4, 5, 6, 7, 8, 9, 11};
        for (int i = 0; i < due.length; i++) {
            due(x, "b(" + (i + 1) + ").", due[i], least[i], rules[i]);
        }
    }

    private static void whatIsAReason() {
        Checks.says("A reason of a fact is an instance of a rule that gives it, that it is told, or that it is chosen.");
        Stratahold x = Checks.with("a(1). a(2). ?c(X):a(X). ?c(X):a(X). d(X):c(X). :a(X),!a(1).");
        due(x, "a(1).", 1, 1, Stratahold.TOLD);
        due(x, "c(1).", 1, 1, Stratahold.CHOSEN);
        due(x, "d(1).", 1, 2, 2);
        Checks.addAll(x, "c(X):a(X). d(Y):a(Y). d(1).");
        due(x, "c(1).", 2, 1, Stratahold.CHOSEN);
        due(x, "c(2).", 1, 2, 4);
        due(x, "d(1).", 3, 1, Stratahold.TOLD);
        due(x, "d(2).", 2, 2, 5);
        Checks.add(x, "c(1).");
        due(x, "c(1).", 3, 1, Stratahold.TOLD);
        Checks.withdraw(x, "d(1).");
        due(x, "d(1).", 2, 2, 2);
        Checks.withdraw(x, "c(1).");
        due(x, "c(1).", 2, 1, Stratahold.CHOSEN);
        x.drop(0);
        due(x, "c(1).", 2, 1, Stratahold.CHOSEN);
        x.drop(1);
        due(x, "c(1).", 1, 2, 4);
        Stratahold y = Checks.with("a(s[s[s[1]]]). b(1):a(X). b(X):a(s[X]). g(X):b(X),!h(X). g(1):g(1).");
        due(y, "b(s[s[1]]).", 1, 2, 1);
        due(y, "g(1).", 2, 3, 2);
    }

    private static void leastProofs() {
        Checks.says("The least proof of a fact is 1, if it is told or chosen; otherwise the least, of its reasons, of 1 and the "
                + "least proofs of all facts that its atoms are, together,");
        Stratahold x = Checks.with("e(1,2). e(2,3). e(3,4). e(1,4). t(X,Y):e(X,Y). t(X,Z):t(X,Y),t(Y,Z). s(X):t(X,Y),!e(X,Y).");
        due(x, "t(1,2).", 1, 2, 0);
        due(x, "t(1,3).", 1, 5, 1);
        due(x, "t(1,4).", 3, 2, 0);
        due(x, "t(2,4).", 1, 5, 1);
        due(x, "s(1).", 1, 6, 2);
        Checks.withdraw(x, "e(1,4).");
        due(x, "t(1,4).", 2, 8, 1);
        Checks.add(x, "t(1,3).");
        due(x, "t(1,4).", 2, 4, 1);
        Stratahold y = Checks.with("b(1):!a(1). c(1):b(1),X~1+1,X=X. d(1):0*a(X). f(X):X~2*3.");
        due(y, "b(1).", 1, 1, 0);
        due(y, "c(1).", 1, 2, 1);
        due(y, "d(1).", 1, 1, 2);
        due(y, "f(6).", 1, 1, 3);
    }

    private static void onceForEachAtom() {
        Checks.says("once for each atom (with ^ 1),");
        Stratahold x = Checks.with("a(1). b(X):a(X). c(X):b(X). d(X):c(X),c(X),c(X). e(X):c(X),c(X)^9,c(X). c(2). e(X):c(X),c(X)^9,c(X).");
        due(x, "c(1).", 1, 3, 1);
        due(x, "d(1).", 1, 10, 2);
        due(x, "e(2).", 2, 4, 3);
        Stratahold y = Checks.with("b(X):a(X). c(X):a(X)^5. d(X):a(X),a(X)^5. a(X):z(X). z(1). a(1). e(X):d(X),c(X).");
        due(y, "c(1).", 1, 2, 1);
        due(y, "d(1).", 1, 3, 2);
        due(y, "e(1).", 1, 6, 4);
    }

    private static void asManyAsItTells() {
        Checks.says("and for number * atom of as many as it tells, those with the least ones;");
        String facts = "g(1). g(2). g(X):h(X). h(3). g(X):k(X). k(X):h(Y),X~Y+1. ";
        for (int many = 0; many <= 4; many++) {
            Stratahold x = Checks.with(facts + "b(1):" + many + "*g(X).");
            due(x, "g(3).", 1, 2, 0);
            due(x, "g(4).", 1, 3, 1);
            due(x, "b(1).", 1, new int[] {1, 2, 3, 5, 8}[many], 3);
        }
        Checks.due("five of four", Checks.has(Checks.with(facts + "b(1):5*g(X)."), "b(1)."), false);
        Stratahold back = Checks.with("z(4). c(3):z(4). c(2):c(3). c(1):c(2). c(X):z(X). b(1):1*c(X). b(2):2*c(X). b(3):3*c(X). b(4):4*c(X).");
        due(back, "c(1).", 1, 4, 2);
        due(back, "c(4).", 1, 2, 3);
        due(back, "b(1).", 1, 1 + 2, 4);
        due(back, "b(2).", 1, 1 + 2 + 2, 5);
        due(back, "b(3).", 1, 1 + 2 + 2 + 3, 6);
        due(back, "b(4).", 1, 1 + 2 + 2 + 3 + 4, 7);
        Stratahold y = Checks.with(facts + "j(1). j(2). j(4). b(X):j(X),1*g(X). c(X):j(X),2*g(Y).");
        due(y, "b(1).", 1, 3, 3);
        due(y, "b(4).", 1, 5, 3);
        due(y, "c(4).", 1, 4, 4);
    }

    /** Facts whose least proofs are nearly twice as much each, and sums of them just as they are wanted. */
    private static void atMostAMillion() {
        Checks.says("at most 1000000.");
        Stratahold x = Checks.with("h(80). h(Y):h(X),h(X),Y~X+1. d(1):h(98),h(97),h(96). d(2):d(1),h(95),h(93). d(3):d(2),h(88),h(85).");
        for (int i = 0; i <= 18; i++) {
            due(x, "h(" + (80 + i) + ").", 1, (2 << i) - 1, i == 0 ? Stratahold.TOLD : 0);
        }
        due(x, "h(99).", 1, 1000000, 0);
        due(x, "d(1).", 1, 1 + 524287 + 262143 + 131071, 1);
        due(x, "d(2).", 1, 999421, 2);
        due(x, "d(3).", 1, 999996, 3);
        Checks.addAll(x, "d(4):d(3),h(80). d(5):d(4). d(6):d(5). d(7):d(6). d(8):d(5),h(80). d(9):h(99),h(99),d(7).");
        due(x, "d(4).", 1, 999998, 4);
        due(x, "d(5).", 1, 999999, 5);
        due(x, "d(6).", 1, 1000000, 6);
        due(x, "d(7).", 1, 1000000, 7);
        due(x, "d(8).", 1, 1000000, 8);
        due(x, "d(9).", 1, 1000000, 9);
        Stratahold y = Checks.with("h(80). h(Y):h(X),h(X),Y~X+1. b(2):2*h(X). b(19):19*h(X). b(20):20*h(X).");
        due(y, "b(2).", 1, 1 + 1 + 3, 1);
        due(y, "b(19).", 1, 1000000, 2);
        due(y, "b(20).", 1, 1000000, 3);
        Checks.add(y, "b(18):18*h(X).");
        due(y, "b(18).", 1, (1 << 19) - 1 - 18, 4);
    }

    private static void lowestRules() {
        Checks.says("Returns TOLD, CHOSEN, the first of these that is so; otherwise the lowest rule with such a reason.");
        Stratahold x = Checks.with("a(1). b(1):a(1),a(1). b(1):a(1). b(1):a(X). ?z(X):a(X). b(X):a(X). :a(9). b(1):!a(2),a(1).");
        due(x, "b(1).", 5, 2, 1);
        x.drop(1);
        due(x, "b(1).", 4, 2, 2);
        x.drop(2);
        due(x, "b(1).", 3, 2, 4);
        x.drop(4);
        due(x, "b(1).", 2, 2, 6);
        x.drop(6);
        due(x, "b(1).", 1, 3, 0);
        Checks.add(x, "?b(X):a(X).");
        due(x, "b(1).", 2, 1, Stratahold.CHOSEN);
        Checks.add(x, "b(1).");
        due(x, "b(1).", 3, 1, Stratahold.TOLD);
    }

    private static void dueNot(Stratahold x, String fact, int want) {
        Checks.write(x, fact);
        Checks.due("whyNot of " + fact, x.whyNot(), want);
    }

    private static void whyNotThrows() {
        Checks.says("Throws `java` .util.NoSuchElementException if it is in the model");
        Stratahold x = Checks.with("a(1). a(2). b(X):a(X),!c(X). ?c(X):a(X).");
        for (String text : new String[] {"a(1).", "b(2).", "c(1)."}) {
            Checks.write(x, text);
            Checks.dueThrow("whyNot of " + text, ELEMENT, x::whyNot);
        }
        dueNot(x, "a(3).", Stratahold.NONE);
        dueNot(x, "b(1).", 1);
        dueNot(x, "c(2).", Stratahold.NONE);
        Checks.withdraw(x, "a(2).");
        dueNot(x, "b(2).", 0);
    }

    private static void heads() {
        Checks.says("of all rules whose heads can be it,");
        Stratahold x = Checks.with("a(1). p(X,X):a(X),z(1). p(1,2):a(1),z(1). p(s[X],Y):a(X),a(Y),z(1). p(X,5):z(1),a(X). q(X,Y,Z):a(X),a(Y),a(Z),1*z(U).");
        dueNot(x, "p(1,1).", 1);
        dueNot(x, "p(2,2).", 0);
        dueNot(x, "p(1,2).", 11);
        dueNot(x, "p(2,1).", Stratahold.NONE);
        dueNot(x, "p(s[1],1).", 22);
        dueNot(x, "p(s[s[1]],1).", 20);
        dueNot(x, "p(s[1],2).", 21);
        dueNot(x, "p(t[1],1).", Stratahold.NONE);
        dueNot(x, "p(1,5).", 30);
        dueNot(x, "p(s[1],5).", 21);
        dueNot(x, "p(s[1],s[1]).", 21);
        dueNot(x, "p(5,5).", 0);
        dueNot(x, "p(1).", Stratahold.NONE);
        dueNot(x, "q(1,1,1).", 43);
        dueNot(x, "q(1,2,1).", 41);
        dueNot(x, "q(2,1,1).", 40);
        Checks.says("NONE if there is no such rule.");
        dueNot(x, "r(1).", Stratahold.NONE);
        dueNot(new Stratahold(), "r(1).", Stratahold.NONE);
        dueNot(Checks.with("?r(X):a(X). :r(2)."), "r(1).", Stratahold.NONE);
    }

    private static void literals() {
        Checks.says("how many literals of the body hold, one behind the other, for some values, at most, the head's variables "
                + "having theirs from the fact.");
        Stratahold x = Checks.with("e(1,2). e(2,3). e(1,4). a(4). b(1):e(1,X),a(X),1*e(X,Y),!a(4). b(2):z(1),a(4). b(3):e(X,Y),e(Y,Z),a(Z),!a(4).");
        dueNot(x, "b(1).", 2);
        dueNot(x, "b(2).", 10);
        dueNot(x, "b(3).", 22);
        Checks.says("Returns 10 times the rule with the most, the lowest one of several, and how many these are, together;");
        Stratahold y = Checks.with("a(1). b(1):z(1). b(1):a(1),z(1). b(1):a(X),z(1). :z(2). b(1):a(1),a(1),a(1),!a(1). b(1):a(1),a(1),a(1),1*z(1).");
        dueNot(y, "b(1).", 43);
        y.drop(4);
        dueNot(y, "b(1).", 53);
        y.drop(5);
        dueNot(y, "b(1).", 11);
        y.drop(1);
        dueNot(y, "b(1).", 21);
        y.drop(2);
        dueNot(y, "b(1).", 0);
        y.drop(0);
        dueNot(y, "b(1).", Stratahold.NONE);
        Stratahold z = new Stratahold();
        for (int i = 0; i < 25; i++) {
            Checks.add(z, ":b(1).");
            z.drop(i);
        }
        Checks.addAll(z, "b(X):a(X),a(X),a(X),!a(X). a(1).");
        dueNot(z, "b(1).", 253);
    }
}
