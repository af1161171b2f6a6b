import java.util.NoSuchElementException;

/** Promises 5 to 14: refusal, add, withdraw, drop, tick, begin, commit, rollBack, speak, own. */
public final class ChangesTest {
    private static final Class<IllegalArgumentException> ARGUMENT = IllegalArgumentException.class;
    private static final Class<IllegalStateException> STATE = IllegalStateException.class;
    private static final Class<IndexOutOfBoundsException> INDEX = IndexOutOfBoundsException.class;
    private static final Class<NoSuchElementException> ELEMENT = NoSuchElementException.class;

    public static void main(String[] args) {
        adding();
        errorsAndSafety();
        strata();
        limitsOfToldAndRules();
        limitsOfTheModel();
        brokenConstraints();
        orderOfRefusals();
        withdrawing();
        dropping();
        ticking();
        ticksThatAreRefused();
        lives();
        together();
        commitThatIsRefused();
        takingBack();
        speaking();
        owning();
        owningTogether();
        Checks.end();
    }

    private static Stratahold counted(int facts) {
        Stratahold x = new Stratahold();
        for (int i = 0; i < facts; i++) {
            Checks.due("fact " + i, Checks.add(x, "a(" + i + ")."), i + 1);
        }
        return x;
    }

    private static void adding() {
        Stratahold x = new Stratahold();
        Checks.due("the first fact", Checks.add(x, "e(1,2)."), 1);
        Checks.due("the text stays", x.textError(), Stratahold.NONE);
        Checks.due("the same fact again", x.add(0), 1);
        Checks.due("another fact", Checks.add(x, "e(1,3).", 100), 2);
        Checks.due("one of another predicate", Checks.add(x, "e(1).", 1), 3);
        Checks.due("a rule", Checks.add(x, "t(X,Y):e(X,Y)."), 0);
        Checks.due("the same rule again", x.add(0), 1);
        Checks.due("a constraint", Checks.add(x, ":e(9,9)."), 2);
        Checks.due("a choice", Checks.add(x, "?c(X):e(X,Y)."), 3);
        Checks.dueModel("all that", x, "c(1) e(1) e(1,2) e(1,3) t(1,2) t(1,3)");
        for (int life : new int[] {-1, 101, Integer.MIN_VALUE, Integer.MAX_VALUE}) {
            Checks.dueThrow("add(" + life + ") of a choice", ARGUMENT, () -> x.add(life));
        }
        Checks.write(x, "e(1,");
        Checks.dueThrow("add of an error", STATE, () -> x.add(0));
        Checks.dueThrow("add(101) of an error", ARGUMENT, () -> x.add(101));
        Checks.due("an error counts nothing", Checks.add(x, ":e(9,9)."), 4);
    }

    private static void errorsAndSafety() {
        Stratahold x = new Stratahold();
        Checks.due("no text", x.refusal(), 1);
        String[] errors = {"a(1)", "a(1,).", "a(1).a", "a(s[s[s[s[1]]]]).", "a(X):b(X),b(X),b(X),b(X),b(X)."};
        for (String text : errors) {
            Checks.due("refusal of " + text, Checks.refusal(x, text), 1);
        }
        String[] unsafe = {
            "a(X).", "a(1,s[X]).", "a(X):b(Y).", "a(X):b(1).", "?a(X):b(Y).", "a(X):!b(X).", "a(X):b(X),!c(Y).",
            "a(X):!c(X),b(X).", ":!a(X).", ":X<Y.", ":a(X),X<Y.", ":a(X),Y=X.", ":X#X.", ":X<Y,a(X),a(Y).",
            "a(X):X~Y+1.", "a(X):b(Y),X~Y+Z.", "a(X):X~Z-1,b(Z).", ":b(X),X~1+1.", ":b(X),X~X+1.", ":X~1+1,X~1+1.",
            ":b(X),X~n(a(Y)).", "a(X):1*b(X).", "a(1):1*b(X),c(X).", "a(1):2*b(X),2*c(X).", "a(X):N~n(b(X)).",
            "a(N):N~n(b(X)),c(X).", "a(N):N~s(X;b(X)),c(X).", "a(N):N~s(X;b(Y)).", "a(N):N~m(X;b(Y)),c(X).",
            "a(N):N~x(X;b(X)),X<N.", "a(N):c(X),N~s(X;b(Y)).", "a(N):M~n(b(X)).", "a(1):N~n(b(N)).",
            "a(1):b(X),b(Y),b(Z),b(W).", "a(1):b(X)^1,b(Y),b(Z),b(W)^2.", ":b(X),b(X),b(X),b(X).",
            "a(X):1*b(Y),!c(Y),d(X).", "a(X):d(X),N~n(b(Y)),M~n(b(Y)).",
            "a(A).", "a(A):b(B).", ":!a(A).", ":A~1+1,A~1+1.", ":b(B),A<B.",
        };
        for (String text : unsafe) {
            Checks.due("refusal of " + text, Checks.refusal(x, text), 2);
            Checks.dueThrow("add of " + text, STATE, () -> x.add(0));
        }
        String[] safe = {
            "a(1).", "a(X):b(X).", "a(1):b(X).", "a(X):b(X),!c(X).", "a(1):!b(1).", ":a(X),a(Y),X<Y.", ":a(X),X=X.",
            "a(X):X~1+1.", "a(X):b(Y),X~Y+1.", "a(X):X~1+1,b(X).", ":X~1+1,Y~X*X,Y<X.", "a(1):1*b(X).",
            "a(1):2*b(X,X).", "a(X):b(X),2*c(X,Y).", "a(N):N~n(b(X)).", "a(N):N~s(X;b(X)).", "a(N):N~m(X;b(X,Y)).",
            "a(N):c(X),N~s(X;b(X)).", "a(N):c(X),N~x(Y;b(X,s[Y])).", "a(1):b(X),b(Y),b(Z),!b(1).", "a(X):b(X)^1.",
            "a(s[X]):b(t[s[X]]).", "?a(X):b(X).", ":b(X),1*c(X).", "a(X):X~n(b(1)).",
        };
        for (String text : safe) {
            Checks.due("refusal of " + text, Checks.refusal(x, text), 0);
        }
        Checks.due("what is asked adds nothing", x.facts(), 0);
    }

    private static void strata() {
        Stratahold x = Checks.with("b(X):a(X). c(X):b(X).");
        String[] without = {
            "a(X):d(X),!a(X).", "a(X):d(X),!c(X).", "a(X):d(X),!b(X).", "a(N):N~n(c(X)).", "a(N):N~s(X;c(X)).",
            "a(N):N~m(X;b(X)).", "a(N):N~x(X;a(X)).", "?a(X):c(X).", "?a(X):a(X).", "?a(X):d(X),1*c(X).",
            "?a(X):c(X)^2.",
        };
        for (String text : without) {
            Checks.due("refusal of " + text, Checks.refusal(x, text), 3);
            Checks.dueThrow("add of " + text, STATE, () -> x.add(0));
        }
        String[] with = {
            "a(X):c(X).", "a(1):2*c(X).", "a(X):c(X)^3.", "a(X):d(X),!c(X,1).", "?a(X):d(X).", ":a(X),!c(X).",
            "c(X):a(X),!d(X).", "c(X,X):a(X),!c(X).",
        };
        for (String text : with) {
            Checks.due("refusal of " + text, Checks.refusal(x, text), 0);
        }
        Checks.add(x, "d(X):f(X),!c(X).");
        Checks.due("a cycle over two rules", Checks.refusal(x, "a(X):d(X)."), 3);
        x.drop(2);
        Checks.due("without that rule", Checks.refusal(x, "a(X):d(X)."), 0);
    }

    private static void limitsOfToldAndRules() {
        Stratahold x = counted(24);
        Checks.due("the 25th fact", Checks.refusal(x, "b(1)."), 5);
        Checks.dueThrow("add of it", STATE, () -> x.add(0));
        Checks.due("one that is told", Checks.refusal(x, "a(7)."), 0);
        Checks.due("add of it", x.add(5), 24);
        Checks.due("a rule", Checks.add(x, "b(X):a(X),X<X."), 0);
        Stratahold y = new Stratahold();
        for (int i = 0; i < 12; i++) {
            String text = i % 3 == 0 ? "a(1):b(" + i + ")." : i % 3 == 1 ? ":b(" + i + ")." : "?c(1):b(" + i + ").";
            Checks.due("rule " + i, Checks.add(y, text), i);
        }
        for (String text : new String[] {"a(1):b(1).", ":b(77).", "?c(1):b(1)."}) {
            Checks.due("the 13th: " + text, Checks.refusal(y, text), 5);
            Checks.dueThrow("add of the 13th: " + text, STATE, () -> y.add(0));
        }
        Checks.due("a fact", Checks.refusal(y, "b(50)."), 0);
        Checks.due("drop one", y.drop(4), 11);
        Checks.due("one that was dropped counts no more", Checks.add(y, "a(1):b(1)."), 12);
        Checks.due("and the next one", Checks.refusal(y, "a(1):b(1)."), 5);
    }

    private static void limitsOfTheModel() {
        Stratahold x = counted(16);
        Checks.due("a rule that makes 32 facts", Checks.add(x, "b(X):a(X)."), 0);
        Checks.due("32 facts", x.facts(), 32);
        Checks.due("a fact more", Checks.refusal(x, "c(1)."), 6);
        Checks.dueThrow("add of it", STATE, () -> x.add(0));
        Checks.due("a rule that makes one more", Checks.refusal(x, "c(1):a(1)."), 6);
        Checks.due("a choice that makes one more", Checks.refusal(x, "?c(X):a(X)."), 6);
        Checks.due("a choice of what is there", Checks.refusal(x, "?b(X):a(X)."), 0);
        Checks.due("a rule that makes too deep ones alone", Checks.refusal(x, "c(s[s[s[X]]]):a(X),c(X)."), 0);
        Stratahold y = counted(6);
        Checks.due("36 candidates", Checks.refusal(y, "?p(X,Y):a(X),a(Y)."), 6);
        Checks.due("36 instances, 6 candidates", Checks.refusal(y, "?p(X,X):a(X),a(Y)."), 0);
        Checks.due("30 candidates", Checks.refusal(y, "?p(X,Y):a(X),a(Y),X#Y."), 0);
        Stratahold c = Checks.with("a(0). a(20). a(40). ?p(Z):a(X),b(Y),Z~X+Y.");
        for (int i = 0; i < 10; i++) {
            Checks.add(c, "b(" + i + ").");
        }
        Checks.due("33 candidates of one group", Checks.refusal(c, "b(10)."), 6);
        Checks.due("30 and three", Checks.refusal(c, "b(59)."), 6);
        Checks.due("30 and two", Checks.refusal(c, "b(60)."), 0);
        Stratahold d = Checks.with("a(0). a(20). a(40). a(60). ?p(Z):a(X),b(Y),Z~X+Y.");
        for (int i = 0; i < 8; i++) {
            Checks.due("up to 32 candidates", Checks.add(d, "b(" + i + ")."), i + 5);
        }
        Checks.due("36 candidates of one group", Checks.refusal(d, "b(9)."), 6);
        Checks.add(y, "b(1,1).");
        Checks.add(y, "b(2,2).");
        Checks.add(y, ":c(1).");
        Checks.due("36 facts by a rule", Checks.refusal(y, "p(X,Y):a(X),a(Y)."), 6);
        Stratahold z = Checks.with("a(0). a(1). a(2). b(X):a(X),c(Y). d(X,Y):c(9),a(X),a(Y).");
        Checks.due("a broken one is behind 6", Checks.refusal(z, "c(8)."), 0);
        Checks.addAll(z, "a(3). a(4). a(5). :c(X).");
        Checks.due("6 ahead of 7", Checks.refusal(z, "c(9)."), 6);
        Checks.due("7 alone", Checks.refusal(z, "c(8)."), 7);
    }

    private static void brokenConstraints() {
        Stratahold x = Checks.with("a(1). :a(X),b(X).");
        Checks.due("refusal of what breaks it", Checks.refusal(x, "b(1)."), 7);
        Checks.dueThrow("add of what breaks it", STATE, () -> x.add(0));
        Checks.due("what does not", Checks.refusal(x, "b(2)."), 0);
        Checks.due("a rule that breaks it", Checks.refusal(x, "b(X):a(X)."), 7);
        Checks.due("a constraint that is broken", Checks.refusal(x, ":a(X)."), 7);
        Checks.due("a choice that breaks it", Checks.refusal(x, "?b(X):a(X)."), 8);
        Checks.dueThrow("add of that", STATE, () -> x.add(0));
        Checks.due("a choice that is not needed", Checks.add(x, "?c(X):d(X)."), 1);
        Checks.due("with it there is no way", Checks.refusal(x, "b(1)."), 8);
        Checks.dueModel("nothing of it came", x, "a(1)");
        Checks.due("a constraint of nothing", Checks.refusal(x, ":0*d(X)."), 8);
        Checks.due("of a count", Checks.refusal(x, ":2*a(X)."), 0);
    }

    private static void orderOfRefusals() {
        Stratahold x = counted(23);
        Checks.addAll(x, ":z(1). b(1).");
        x.own('o');
        x.own('a');
        x.speak(1);
        Checks.due("2 ahead of 3", Checks.refusal(x, "a(X):c(X),!a(Y)."), 2);
        Checks.due("3 ahead of 4", Checks.refusal(x, "o(X):c(X),!o(X)."), 3);
        Checks.due("4 ahead of 5", Checks.refusal(x, "o(1)."), 4);
        Checks.due("2 ahead of 4", Checks.refusal(x, "o(X)."), 2);
        Checks.due("5 ahead of 7", Checks.refusal(x, "z(1)."), 5);
        Checks.due("4 ahead of 6", Checks.refusal(x, "o(X):a(X)."), 4);
        Checks.due("6", Checks.refusal(x, "p(X):a(X)."), 6);
        Stratahold y = new Stratahold();
        for (int i = 0; i < 12; i++) {
            Checks.add(y, "a(1):b(" + i + ").");
        }
        Checks.due("3 ahead of 5", Checks.refusal(y, "b(1):a(1),!b(1)."), 3);
        Checks.due("5 of a constraint that is broken", Checks.refusal(y, ":0*b(X)."), 5);
    }

    private static void withdrawing() {
        Stratahold x = Checks.with("a(1). a(2). b(X):a(X). u(X):b(X),!a(X).");
        Checks.due("withdraw", Checks.withdraw(x, "a(1)."), 1);
        Checks.dueModel("then", x, "a(2) b(2)");
        Checks.dueThrow("again", ELEMENT, x::withdraw);
        for (String text : new String[] {"b(2).", "a(X).", "a(3).", "a(2", "", "a(2):a(2).", ":a(2).", "a(2,2)."}) {
            Checks.write(x, text);
            Checks.dueThrow("withdraw of " + text, ELEMENT, x::withdraw);
        }
        Checks.add(x, ":!a(2).");
        Checks.write(x, "a(2).");
        Checks.dueThrow("withdraw that breaks a constraint", STATE, x::withdraw);
        Checks.dueModel("nothing came of it", x, "a(2) b(2)");
        x.own('a');
        x.speak(2);
        Checks.dueThrow("withdraw of what another module owns", STATE, x::withdraw);
        Checks.write(x, "a(1).");
        Checks.dueThrow("withdraw of what is not told", ELEMENT, x::withdraw);
        x.speak(0);
        x.drop(2);
        Checks.due("withdraw then", Checks.withdraw(x, "a(2)."), 0);
        Stratahold y = counted(6);
        Checks.addAll(y, "c(1). p(X,Y):a(X),a(Y),!c(1).");
        Checks.write(y, "c(1).");
        Checks.dueThrow("withdraw that brings too many", STATE, y::withdraw);
        Checks.due("nothing came of that", y.facts(), 7);
    }

    private static void dropping() {
        Stratahold x = Checks.with("a(1). b(X):a(X). :c(1),d(1). ?e(X):a(X). c(1):a(1).");
        for (int rule : new int[] {-1, 4, 12, Integer.MIN_VALUE, Integer.MAX_VALUE}) {
            Checks.dueThrow("drop(" + rule + ")", INDEX, () -> x.drop(rule));
        }
        Checks.due("drop a constraint", x.drop(1), 3);
        Checks.dueThrow("drop it again", INDEX, () -> x.drop(1));
        Checks.due("drop a rule", x.drop(0), 2);
        Checks.due("drop a choice", x.drop(2), 1);
        Checks.dueModel("then", x, "a(1) c(1)");
        Checks.due("the next one has a new number", Checks.add(x, ":c(1),!a(1)."), 4);
        Stratahold y = Checks.with("a(1). b(1):a(1). :!b(1).");
        Checks.dueThrow("drop that breaks a constraint", STATE, () -> y.drop(0));
        Checks.dueModel("nothing came of it", y, "a(1) b(1)");
        y.own('b');
        y.speak(3);
        Checks.dueThrow("drop of another's rule", STATE, () -> y.drop(0));
        Checks.due("a constraint has no owner", y.drop(1), 1);
        Checks.dueThrow("drop of another's rule then", STATE, () -> y.drop(0));
        Checks.dueThrow("drop of one that was dropped", INDEX, () -> y.drop(1));
        y.speak(0);
        Checks.due("drop of the own rule", y.drop(0), 0);
        Stratahold z = Checks.with("a(1). ?c(X):a(X). :b(1). ?b(X):d(X).");
        z.own('c');
        z.speak(1);
        Checks.dueThrow("drop of another's choice", STATE, () -> z.drop(0));
    }

    private static void ticking() {
        Stratahold x = Checks.with("a(0).");
        Checks.add(x, "a(1).", 1);
        Checks.add(x, "a(2).", 2);
        Checks.add(x, "a(3).", 3);
        Checks.add(x, "b(X):a(X).");
        for (int ticks : new int[] {0, -1, 6, Integer.MIN_VALUE, Integer.MAX_VALUE}) {
            Checks.dueThrow("tick(" + ticks + ")", ARGUMENT, () -> x.tick(ticks));
        }
        Checks.due("the first tick", x.tick(1), 1);
        Checks.dueModel("then", x, "a(0) a(2) a(3) b(0) b(2) b(3)");
        Checks.due("five ticks", x.tick(5), 2);
        Checks.dueModel("then", x, "a(0) b(0)");
        x.begin();
        Checks.dueThrow("tick together", STATE, () -> x.tick(1));
        Checks.dueThrow("a wrong tick together", ARGUMENT, () -> x.tick(6));
        x.rollBack();
        Stratahold y = new Stratahold();
        Checks.add(y, "a(1).", 100);
        for (int i = 0; i < 199; i++) {
            Checks.due("five ticks more", y.tick(5), i == 19 ? 1 : 0);
        }
        Checks.due("the tick 999", y.tick(4), 0);
        Checks.dueThrow("the tick 1001", STATE, () -> y.tick(2));
        Checks.dueThrow("the tick 1004", STATE, () -> y.tick(5));
        Checks.dueThrow("a wrong tick at the end", ARGUMENT, () -> y.tick(0));
        Checks.due("the tick 1000", y.tick(1), 0);
        Checks.dueThrow("one tick more", STATE, () -> y.tick(1));
    }

    private static void ticksThatAreRefused() {
        Stratahold x = new Stratahold();
        Checks.add(x, "a(1).", 1);
        Checks.add(x, "b(1).", 3);
        Checks.add(x, ":!b(1).");
        Checks.dueThrow("ticks of which the third is refused", STATE, () -> x.tick(4));
        Checks.dueModel("nothing came of them", x, "a(1) b(1)");
        Checks.due("two of them", x.tick(2), 1);
        Checks.dueThrow("the third", STATE, () -> x.tick(1));
        Checks.due("told anew", Checks.add(x, "b(1).", 2), 1);
        Checks.due("the third now", x.tick(1), 0);
        Checks.dueThrow("the fourth", STATE, () -> x.tick(1));
        Stratahold y = new Stratahold();
        Checks.add(y, "a(1).", 0);
        Checks.add(y, ":a(X),!b(X).", 0 * Checks.add(y, "b(X):a(X)^1."));
        Checks.due("a window that still is open", y.tick(1), 0);
        Checks.dueThrow("a window that shuts", STATE, () -> y.tick(1));
        Stratahold z = new Stratahold();
        Checks.add(z, "c(1).", 2);
        for (int i = 0; i < 6; i++) {
            Checks.add(z, "a(" + i + ").");
        }
        Checks.add(z, "p(X,Y):a(X),a(Y),!c(1).");
        Checks.dueThrow("a tick with which too many come", STATE, () -> z.tick(2));
        Checks.due("the tick ahead of it", z.tick(1), 0);
    }

    private static void lives() {
        Stratahold x = new Stratahold();
        Checks.add(x, "a(1).", 2);
        x.tick(1);
        Checks.due("told anew", Checks.add(x, "a(1).", 2), 1);
        Checks.due("its old life is nothing", x.tick(1), 0);
        Checks.due("its new life is over", x.tick(1), 1);
        Checks.add(x, "a(1).", 1);
        Checks.add(x, "a(1).", 0);
        Checks.due("told anew for ever", x.tick(5), 0);
        Checks.add(x, "a(1).", 5);
        Checks.due("told anew for five", x.tick(5), 1);
        Checks.add(x, "a(1).", 100);
        for (int i = 0; i < 19; i++) {
            x.tick(5);
        }
        Checks.due("a long life", x.tick(4), 0);
        Checks.due("its end", x.tick(1), 1);
    }

    private static void together() {
        Stratahold x = Checks.with("a(1). b(X):a(X). :c(X),!d(X).");
        Checks.dueThrow("commit ahead of begin", STATE, x::commit);
        Checks.dueThrow("rollBack ahead of begin", STATE, () -> Checks.nothing(x::rollBack));
        x.begin();
        Checks.dueThrow("begin again", STATE, () -> Checks.nothing(x::begin));
        Checks.due("what a constraint forbids", Checks.refusal(x, "c(1)."), 0);
        Checks.due("is told", Checks.add(x, "c(1)."), 2);
        Checks.dueModel("the model is that of begin", x, "a(1) b(1)");
        Checks.due("withdraw", Checks.withdraw(x, "a(1)."), 1);
        Checks.dueThrow("withdraw again", ELEMENT, x::withdraw);
        Checks.dueModel("the model is still that", x, "a(1) b(1)");
        Checks.due("reasons are those of begin", x.reasons(0), 1);
        Checks.due("why is that of begin", x.why(1), 0);
        Checks.due("drop", x.drop(0), 1);
        Checks.dueThrow("drop again", INDEX, () -> x.drop(0));
        Checks.due("why is still that of begin", x.why(1), 0);
        Checks.due("least is still that of begin", x.least(1), 2);
        Checks.due("a rule", Checks.add(x, "d(X):c(X)."), 2);
        Checks.write(x, "d(1).");
        Checks.due("whyNot is that of begin", x.whyNot(), Stratahold.NONE);
        Checks.due("in the model", x.place(), Stratahold.NONE);
        Checks.due("commit", x.commit(), 0);
        Checks.dueModel("then", x, "c(1) d(1)");
        Checks.dueThrow("commit again", STATE, x::commit);
        Checks.dueThrow("rollBack then", STATE, () -> Checks.nothing(x::rollBack));
        x.begin();
        Checks.due("commit of nothing", x.commit(), 0);
        Checks.dueModel("then", x, "c(1) d(1)");
    }

    private static void commitThatIsRefused() {
        Stratahold x = Checks.with("a(1). :c(1).");
        x.begin();
        Checks.add(x, "c(1).");
        Checks.add(x, "a(2).");
        Checks.due("a rule", Checks.add(x, "b(X):a(X)."), 1);
        x.speak(2);
        x.own('q');
        Checks.write(x, "e(1).");
        Checks.due("commit", x.commit(), 7);
        Checks.dueModel("all is as it was", x, "a(1)");
        Checks.due("but for the text", x.place(), Stratahold.NONE);
        Checks.due("but for who speaks", x.speak(0), 2);
        Checks.due("but for who owns", Checks.refusal(x, "q(1)."), 4);
        Checks.due("numbers are as they were", Checks.add(x, "b(X):a(X)."), 1);
        Checks.due("told ones are as they were", Checks.add(x, "a(3)."), 2);
        Checks.dueThrow("it is not begun any more", STATE, x::commit);
        Stratahold y = counted(10);
        y.begin();
        Checks.add(y, "p(X,Y):a(X),a(Y).");
        Checks.due("commit of too much", y.commit(), 6);
        Checks.due("then", y.facts(), 10);
        y.begin();
        Checks.add(y, "?b(X):a(X).");
        Checks.add(y, ":b(X).");
        Checks.due("commit without a way", y.commit(), 8);
        Checks.due("then", y.facts(), 10);
    }

    private static void takingBack() {
        Stratahold x = Checks.with("a(1). a(2). b(X):a(X). ?c(X):b(X).");
        x.tick(2);
        x.begin();
        Checks.withdraw(x, "a(1).");
        Checks.add(x, "a(2).", 1);
        Checks.add(x, "a(5).");
        x.drop(0);
        Checks.add(x, ":a(3).");
        x.speak(1);
        x.own('w');
        x.rollBack();
        Checks.dueModel("all is as it was", x, "a(1) a(2) b(1) b(2) c(1)");
        Checks.due("but for who speaks", x.speak(0), 1);
        Checks.due("but for who owns", Checks.refusal(x, "w(1)."), 4);
        Checks.due("lives are as they were", x.tick(2), 0);
        Checks.due("numbers are as they were", Checks.add(x, ":a(3)."), 2);
        Checks.due("drop what was there", x.drop(0), 2);
        x.begin();
        for (String text : new String[] {"a(X)", "a(X):b(Y).", "c(X):d(X),!c(X)."}) {
            Checks.write(x, text);
            Checks.dueThrow("add together of " + text, STATE, () -> x.add(0));
        }
        for (int i = 0; i < 30; i++) {
            int fact = i;
            Checks.write(x, "d(" + i + ").");
            if (i < 22) {
                Checks.due("told together", x.add(0), i + 3);
            } else {
                Checks.due("refusal together", x.refusal(), 5);
                Checks.dueThrow("add together of " + fact, STATE, () -> x.add(0));
            }
        }
        x.rollBack();
        Checks.due("all back", x.facts(), 2);
    }

    private static void speaking() {
        Stratahold x = new Stratahold();
        Checks.due("speak(0)", x.speak(0), 0);
        Checks.due("speak(3)", x.speak(3), 0);
        for (int module : new int[] {-1, 4, Integer.MIN_VALUE, Integer.MAX_VALUE}) {
            Checks.dueThrow("speak(" + module + ")", INDEX, () -> x.speak(module));
        }
        Checks.due("speak(1)", x.speak(1), 3);
        Checks.due("speak(2)", x.speak(2), 1);
        Checks.due("speak(2) again", x.speak(2), 2);
    }

    private static void owning() {
        Stratahold x = Checks.with("a(1). r(X):a(X). ?s(X):a(X).");
        for (char letter : new char[] {'A', '`', '{', '0', 0, 65535}) {
            Checks.dueThrow("own " + (int) letter, ARGUMENT, () -> Checks.nothing(() -> x.own(letter)));
        }
        for (char letter : "arsz".toCharArray()) {
            x.own(letter);
            x.own(letter);
        }
        Checks.due("the own one", Checks.add(x, "a(2)."), 2);
        x.speak(1);
        Checks.dueThrow("own what another owns", STATE, () -> Checks.nothing(() -> x.own('a')));
        for (String text : new String[] {"a(3).", "a(1,2).", "r(X):b(X).", "?s(X):b(X).", "a(1)."}) {
            Checks.due("refusal of " + text, Checks.refusal(x, text), 4);
            Checks.dueThrow("add of " + text, STATE, () -> x.add(0));
        }
        Checks.dueThrow("withdraw", STATE, x::withdraw);
        Checks.dueThrow("drop", STATE, () -> x.drop(0));
        Checks.due("a rule with it in the body", Checks.refusal(x, "t(X):a(X)."), 0);
        Checks.due("a constraint with it", Checks.refusal(x, ":a(9)."), 0);
        Checks.due("what no one owns", Checks.add(x, "b(1)."), 3);
        x.own('b');
        x.speak(0);
        Checks.dueThrow("own what the other owns", STATE, () -> Checks.nothing(() -> x.own('b')));
        Checks.due("what the other owns", Checks.refusal(x, "b(2)."), 4);
        Checks.dueModel("all can be read", x, "a(1) a(2) b(1) r(1) r(2) s(1)");
    }

    private static void owningTogether() {
        Stratahold x = Checks.with("a(1). r(X):a(X).");
        x.own('a');
        x.own('r');
        x.begin();
        x.speak(1);
        Checks.due("refusal together", Checks.refusal(x, "a(2)."), 4);
        Checks.dueThrow("add together", STATE, () -> x.add(0));
        Checks.write(x, "a(1).");
        Checks.dueThrow("withdraw together", STATE, x::withdraw);
        Checks.dueThrow("drop together", STATE, () -> x.drop(0));
        x.speak(0);
        Checks.due("the owner", x.withdraw(), 0);
        Checks.due("the owner's rule", x.drop(0), 0);
        Checks.due("commit", x.commit(), 0);
        Checks.due("then", x.facts(), 0);
    }
}
