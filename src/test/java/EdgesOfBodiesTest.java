/** The edges that the document names in "What bodies mean" and "Strata", sentence by sentence. */
public final class EdgesOfBodiesTest {
    private static final int SAFE = 0;
    private static final int UNSAFE = 2;
    private static final int WITHOUT_STRATA = 3;

    public static void main(String[] args) {
        atoms();
        ages();
        whatIsTold();
        negation();
        atLeast();
        comparisons();
        calculations();
        counts();
        sums();
        leastAndGreatest();
        ownVariables();
        unsafeVariables();
        unsafeTargets();
        unsafeAtoms();
        restingPositively();
        restingStrictly();
        longLoops();
        restingOfChoices();
        greatestStratum();
        Checks.end();
    }

    private static void atoms() {
        Checks.says("- atom: some fact of the model is it.");
        Stratahold none = Checks.with("b(1):a(1). c(1):a(X).");
        Checks.dueModel("no fact", none, "");
        Checks.add(none, "a(2).");
        Checks.dueModel("a fact that is like one of them", none, "a(2) c(1)");
        Checks.add(none, "a(1).");
        Checks.dueModel("two facts", none, "a(1) a(2) b(1) c(1)");
        Checks.says("A body holds for variables with values, literal by literal from the left;");
        Stratahold order = Checks.with("k(1). k(2). b(Y):k(X),Y~X+1. c(Y):Y~1+1,k(Y). d(X,N):k(X),N~n(k(X)).");
        Checks.dueModel("what is on the left has its value", order, "b(2) b(3) c(2) d(1,1) d(2,1) k(1) k(2)");
        Checks.says("a literal with variables that have no value yet gives them all values with which it holds:");
        Stratahold x = Checks.with("e(1,1). e(1,2). e(s[1],1). a(X,Y):e(X,Y). b(X):e(X,X). c(X):e(s[X],X). d(X):e(X,1),e(X,2).");
        Checks.dueModel("all values", x, "a(1,1) a(1,2) a(s[1],1) b(1) c(1) d(1) e(1,1) e(1,2) e(s[1],1)");
    }

    private static void ages() {
        Checks.says("atom ^ number: likewise, but of facts that are told, and were told at most so many ticks ago.");
        int[] ages = {0, 1, 2, 5, 98, 99};
        for (int age : ages) {
            Stratahold x = Checks.with("a(1). a(2). r(X):a(X)^" + age + ".");
            for (int now = 0; now < age; now += Math.min(5, age - now)) {
                x.tick(Math.min(5, age - now));
            }
            Checks.dueModel("told " + age + " ticks ago", x, "a(1) a(2) r(1) r(2)");
            x.tick(1);
            Checks.dueModel("told one tick more ago", x, "a(1) a(2)");
            Checks.add(x, "a(2).");
            Checks.dueModel("one told anew", x, "a(1) a(2) r(2)");
        }
    }

    private static void whatIsTold() {
        Checks.says("but of facts that are told,");
        Stratahold x = Checks.with("b(1). ?c(X):b(X). d(X):b(X). b(2):d(1). r(X):c(X)^99. s(X):d(X)^99. t(X):b(X)^99.");
        Checks.dueModel("not of others", x, "b(1) b(2) c(1) d(1) d(2) t(1)");
        Checks.addAll(x, "c(1). d(2).");
        Checks.dueModel("but if they are told too", x, "b(1) b(2) c(1) d(1) d(2) r(1) s(2) t(1)");
        Checks.withdraw(x, "d(2).");
        Checks.dueModel("and no more then", x, "b(1) b(2) c(1) d(1) d(2) r(1) t(1)");
    }

    private static void negation() {
        Checks.says("! atom: no fact of the model is it.");
        Stratahold x = Checks.with("a(1). u(1):!b(1). v(X):a(X),!b(s[X]). w(1):!b(1,1). c(1):!d(1). d(1):a(1).");
        Checks.dueModel("no fact", x, "a(1) d(1) u(1) v(1) w(1)");
        Checks.add(x, "b(1).");
        Checks.dueModel("one fact", x, "a(1) b(1) d(1) v(1) w(1)");
        Checks.add(x, "b(s[1]).");
        Checks.dueModel("two facts", x, "a(1) b(1) b(s[1]) d(1) w(1)");
    }

    private static void atLeast() {
        Checks.says("number * atom: at least so many facts of the model are like it, whatever values its own variables have.");
        for (int facts = 0; facts <= 4; facts++) {
            Stratahold x = new Stratahold();
            for (int i = 0; i < facts; i++) {
                Checks.add(x, "g(1," + i + ").");
            }
            Checks.addAll(x, "a(0):0*g(X,Y). a(1):1*g(X,Y). a(2):2*g(1,Y). a(3):3*g(X,Y). a(4):4*g(X,Y). a(5):5*g(1,Y). a(99):99*g(X,Y).");
            Checks.due("how many hold with " + facts, Checks.matches(x, "a(X)."), facts + 1);
            Checks.due("the greatest", Checks.has(x, "a(" + facts + ")."), true);
        }
        Stratahold y = Checks.with("g(1,2). g(2,1). g(2,2). g(2,3). k(1). k(2). p(X):k(X),1*g(X,Y). q(X):k(X),2*g(X,Y). r(1):2*g(X,X). s(1):1*g(X,X).");
        Checks.dueModel("with a value that is there, and one twice", y,
                "g(1,2) g(2,1) g(2,2) g(2,3) k(1) k(2) p(1) p(2) q(2) s(1)");
        Stratahold z = thirtyOne();
        Checks.addAll(z, "a(1):31*g(X). a(2):32*g(X).");
        Checks.due("31 facts that are counted, and one more", z.facts(), 32);
        Checks.due("31 of 31", Checks.has(z, "a(1)."), true);
        Checks.due("32 of 31", Checks.has(z, "a(2)."), false);
    }

    /** With 31 facts of one predicate: a letter, 15 numbers, and a made one of each number. */
    private static Stratahold thirtyOne() {
        Stratahold x = Checks.with("g(s[X]):g(X),Y~X+0. g(a).");
        for (int i = 0; i < 15; i++) {
            Checks.add(x, "g(" + i + ").");
        }
        return x;
    }

    private static void comparisons() {
        Checks.says("<, = and #: both variables have values; the code of the left one is less, they are the same, they are not.");
        String[] values = {"0", "98", "99", "a", "b", "a[0]", "b[0]"};
        for (int i = 0; i < values.length; i++) {
            for (int k = 0; k < values.length; k++) {
                Stratahold x = Checks.with("p(" + values[i] + "," + values[k] + "). "
                        + "l(1):p(X,Y),X<Y. s(1):p(X,Y),X=Y. o(1):p(X,Y),X#Y. l(2):p(X,Y),X<X. s(2):p(X,Y),Y=Y. o(2):p(X,Y),Y#Y.");
                Checks.due("less", Checks.has(x, "l(1)."), i < k);
                Checks.due("the same", Checks.has(x, "s(1)."), i == k);
                Checks.due("others", Checks.has(x, "o(1)."), i != k);
                Checks.due("less than itself", Checks.has(x, "l(2)."), false);
                Checks.due("the same as itself", Checks.has(x, "s(2)."), true);
                Checks.due("other than itself", Checks.has(x, "o(2)."), false);
            }
        }
    }

    private static void dueResult(String calculation, int want) {
        Stratahold x = Checks.with("r(V):V~" + calculation + ".");
        Checks.dueModel(calculation, x, want < 0 ? "" : "r(" + want + ")");
    }

    private static void calculations() {
        Checks.says("variable ~ part sign part: the parts are numbers, and the variable becomes what comes of it, "
                + "if it is 0 to 99; otherwise this does not hold.");
        int[] parts = {0, 1, 2, 9, 10, 11, 33, 49, 50, 51, 98, 99};
        for (int left : parts) {
            for (int right : parts) {
                dueResult(left + "+" + right, left + right <= 99 ? left + right : -1);
                dueResult(left + "-" + right, left - right);
                dueResult(left + "*" + right, left * right <= 99 ? left * right : -1);
            }
        }
        for (String value : new String[] {"a", "z", "a[0]", "s[s[s[1]]]"}) {
            for (String calculation : new String[] {"X+0", "0+X", "X-X", "X-0", "99-X", "X*0", "0*X", "X-99", "X*X"}) {
                Stratahold x = Checks.with("a(" + value + "). r(V):a(X),V~" + calculation + ".");
                Checks.dueModel("what is no number", x, "a(" + value + ")");
            }
        }
    }

    private static void counts() {
        Checks.says("variable ~ n: how many facts are like the atom;");
        for (int facts = 0; facts <= 3; facts++) {
            Stratahold x = new Stratahold();
            for (int i = 0; i < facts; i++) {
                Checks.add(x, "g(" + i + ",1).");
            }
            Checks.addAll(x, "n(N):N~n(g(X,Y)). m(N):N~n(g(X,X)). k(N):N~n(g(X)). l(N):N~n(g(0,1)).");
            Checks.due("all", Checks.has(x, "n(" + facts + ")."), true);
            Checks.due("with one variable twice", Checks.has(x, "m(" + (facts > 1 ? 1 : 0) + ")."), true);
            Checks.due("of another predicate", Checks.has(x, "k(0)."), true);
            Checks.due("without variables", Checks.has(x, "l(" + (facts > 0 ? 1 : 0) + ")."), true);
            Checks.due("one count each", x.facts(), facts + 4);
        }
        Stratahold y = thirtyOne();
        Checks.add(y, "n(N):N~n(g(X)).");
        Checks.due("31 facts and their count", Checks.has(y, "n(31)."), true);
    }

    private static void sums() {
        Checks.says("s, m and x: the sum, the least and the greatest one of the values of the variable in the facts "
                + "like the atom, once for each fact; for s only numbers count, and a sum above 99, or a count above 99, "
                + "does not hold;");
        String[][] runs = {
            {"", "0"}, {"0", "0"}, {"99", "99"}, {"99 0", "99"}, {"98 1", "99"}, {"99 1", ""}, {"98 2", ""},
            {"50 49", "99"}, {"50 51", ""}, {"99 98", ""}, {"z", "0"}, {"a", "0"}, {"a[0] z[99]", "0"}, {"99 a", "99"},
            {"99 s[1]", "99"}, {"10 20 30 39", "99"}, {"10 20 30 40", ""},
        };
        for (String[] run : runs) {
            Stratahold x = new Stratahold();
            for (String value : run[0].split(" ")) {
                if (!value.isEmpty()) {
                    Checks.add(x, "a(" + value + ").");
                }
            }
            Checks.add(x, "s(N):N~s(X;a(X)).");
            Checks.due("a sum for " + run[0], Checks.matches(x, "s(X)."), run[1].isEmpty() ? 0 : 1);
            Checks.due("it is " + run[1], run[1].isEmpty() || Checks.has(x, "s(" + run[1] + ")."), true);
        }
        Stratahold y = Checks.with("g(7,1). g(7,2). g(b,7). s(N):N~s(X;g(X,Y)). t(N):N~s(Y;g(X,Y)). u(N):N~s(X;g(X,7)).");
        Checks.dueModel("once for each fact", y, "g(7,1) g(7,2) g(b,7) s(14) t(10) u(0)");
    }

    private static void leastAndGreatest() {
        Checks.says("m and x by codes, and of no fact do not hold.");
        Stratahold x = Checks.with("m(N):N~m(X;a(X)). x(N):N~x(X;a(X)). n(N):N~m(X;a(1,X)). y(N):N~x(X;a(X,1)).");
        Checks.dueModel("no fact", x, "");
        Checks.add(x, "a(z).");
        Checks.dueModel("one fact", x, "a(z) m(z) x(z)");
        Checks.add(x, "a(a[0]).");
        Checks.dueModel("a greater one", x, "a(z) a(a[0]) m(z) x(a[0])");
        Checks.add(x, "a(99).");
        Checks.dueModel("a less one", x, "a(99) a(z) a(a[0]) m(99) x(a[0])");
        Checks.add(x, "a(1,0).");
        Checks.dueModel("of two arguments", x, "a(99) a(z) a(a[0]) a(1,0) m(99) n(0) x(a[0])");
    }

    private static void due(int want, String... texts) {
        for (String text : texts) {
            Stratahold x = new Stratahold();
            Checks.dueRefusal(x, text, want);
            Checks.due("textError of " + text, x.textError(), Stratahold.NONE);
            if (want == SAFE) {
                x.add(0);
            } else {
                Checks.dueThrow("add of " + text, IllegalStateException.class, () -> x.add(0));
            }
        }
    }

    private static void ownVariables() {
        Checks.says("The own variables of a literal with !, *, n, s, m or x are those of its atom that have no value by then; "
                + "a text is unsafe if one of them occurs elsewhere in it; with !, there may be none.");
        due(SAFE, "a(1):1*b(X).", "a(N):N~n(b(X)).", "a(N):N~s(X;b(X)).", "a(N):N~m(X;b(X)).", "a(N):N~x(X;b(X)).",
                "a(X):b(X),!c(X).", "a(1):!c(1).", "a(X):b(X),2*c(X,Y),!d(X).", "a(X):b(X),N~n(c(X)).",
                "a(X):b(X),c(Y),X<Y,2*d(X,Y).", "a(1):1*b(X,X).", "a(1):1*b(X,s[X]).");
        for (String own : new String[] {"1*b(Q)", "N~n(b(Q))", "N~s(Q;b(Q))", "N~m(Q;b(Q))", "N~x(Q;b(Q))", "1*b(1,s[Q])"}) {
            due(UNSAFE, "a(Q):" + own + ".", "a(1,s[Q]):" + own + ".", "?a(Q):" + own + ".", "a(1):" + own + ",c(Q).",
                    ":" + own + ",c(1)," + "d(s[Q])^1.", "a(1):" + own + ",1*c(Q).", ":" + own + ",M~n(c(Q)).",
                    ":" + own + ",M~s(Q;c(Q)).", ":" + own + ",!c(Q).", ":" + own + ",Q=Q.", ":" + own + ",M~Q+1.",
                    ":" + own + ",M~1*Q.", ":" + own + ",Q~1+1.", ":" + own + ",c(1),c(2),d(Q).");
            due(SAFE, ":d(Q)," + own + ".", "a(Q):d(Q)," + own + ".", "z(1):Q~1+1," + own + ".", ":d(Q)," + own + ",c(Q).");
        }
        due(UNSAFE, ":!b(X).", ":!b(X),c(X).", ":c(Y),!b(X).", ":c(Y),!b(Y,X).", ":1*c(X),!b(X).", ":!b(s[X]).");
    }

    private static void unsafeVariables() {
        Checks.says("It is also unsafe if a variable of <, = or #, a part of ~, or of the head has no value by then "
                + "(a head behind its body),");
        for (String sign : new String[] {"<", "=", "#"}) {
            due(UNSAFE, ":X" + sign + "Y.", ":a(X),X" + sign + "Y.", ":a(Y),X" + sign + "Y.", ":X" + sign + "X.",
                    ":X" + sign + "Y,a(X),a(Y).", ":a(X),X" + sign + "Y,a(Y).");
            due(SAFE, ":a(X),a(Y),X" + sign + "Y.", ":a(X),X" + sign + "X.", ":a(X,Y),X" + sign + "Y.",
                    "z(1):X~1+1,Y~1+1,X" + sign + "Y.", "z(1):X~n(a(U)),Y~x(W;a(W)),X" + sign + "Y.");
        }
        due(UNSAFE, ":X~Y+1.", ":X~1+Y.", ":X~Y*Y,a(Y).", ":a(Y),X~Y-Z.", ":a(Y),X~Z-Y.", ":X~X+1.");
        due(SAFE, ":a(Y),X~Y+1.", ":a(Y),X~1+Y.", "z(1):Y~1+1,X~Y*Y.", ":a(Y)^1,X~Y-Y.", "z(1):N~n(a(U)),X~N+1.");
        due(UNSAFE, "a(X):b(1).", "a(1,2,X):b(1).", "a(s[X]):b(Y).", "?a(X):b(Y).", "a(X,Y):b(X).", "a(N):1*b(1).");
        due(SAFE, "a(X):b(X).", "a(X):b(1),c(X).", "a(X):b(1),c(1),d(1),X~1+1.", "a(X,Y):b(X),c(Y).", "?a(N):N~n(b(1)).",
                "a(X):b(X)^1.", "a(X):b(s[X]).", "a(s[X],X):X~1+1.");
        Checks.says("if a fact has a variable,");
        due(UNSAFE, "a(X).", "a(1,2,A).", "a(s[Z]).", "z(s[t[u[M]]]).");
        due(SAFE, "a(1).", "a(1,2,a).", "a(s[z]).", "z(s[t[u[m]]]).");
    }

    private static void unsafeTargets() {
        Checks.says("if the variable ahead of ~ has one, if that behind ( is not in the atom,");
        due(UNSAFE, ":a(X),X~1+1.", ":X~1+1,X~1+1.", ":a(X),X~n(b(1)).", ":a(X),X~s(Y;b(Y)).", ":a(X)^1,X~m(Y;b(Y)).",
                ":a(X),X~x(X;b(X)).", ":a(X),X~X+0.", ":X~n(a(1)),X~n(a(1)).");
        due(SAFE, ":X~1+1,a(X).", ":X~n(b(1)),a(X).", ":X~s(Y;b(Y)),a(X).", "z(1):X~1+1,Y~1+1.", "z(1):X~1+1,Y~X+X.");
        due(UNSAFE, ":N~s(X;b(Y)).", ":N~m(X;b(1)).", ":N~x(X;b(Y,s[Z])).", ":a(X),N~s(X;b(Y)).", ":a(X),N~m(X;b(1)).",
                ":N~s(N;b(X)).");
        due(SAFE, "z(1):N~s(X;b(X)).", ":N~m(X;b(Y,s[X])).", ":N~x(X;b(1,2,X)).", ":a(X),N~s(X;b(X)).", ":a(X),N~m(X;b(Y,X)).");
    }

    private static void unsafeAtoms() {
        Checks.says("or with more than 3 literals that are atoms (with ^ or without).");
        for (String begin : new String[] {"a(1):", ":", "?a(1):"}) {
            due(SAFE, begin + "b(1),b(1),b(1).", begin + "b(1)^1,b(1),b(1)^2.", begin + "b(1),b(1),b(1),!b(1).",
                    begin + "b(1),b(1),b(1),1*b(1).", begin + "N~n(b(1)),b(1),b(1),b(1).", begin + "b(1),b(X),X=X,b(1).",
                    begin + "b(1),b(1),X~1+1,b(1)^1.", begin + "!b(1),!b(1),!b(1),b(1).", begin + "1*b(1),2*b(1),3*b(1),4*b(1).");
            due(UNSAFE, begin + "b(1),b(1),b(1),b(1).", begin + "b(1)^1,b(1)^1,b(1)^1,b(1)^1.", begin + "b(1),b(1)^1,b(1),b(1).",
                    begin + "b(1),b(1),b(1),b(1)^1.");
        }
    }

    private static void due(Stratahold x, int want, String... texts) {
        for (String text : texts) {
            Checks.dueRefusal(x, text, want);
        }
    }

    private static void restingPositively() {
        Checks.says("A predicate of the head of a rule rests on those of its atoms, with ^ and * too;");
        Stratahold x = Checks.with("b(X):a(X). c(X):b(X)^5. d(1):2*c(X).");
        due(x, SAFE, "a(X):a(X).", "a(X):d(X).", "a(X):d(X)^1.", "a(1):1*d(X).", ":d(X),!a(X).", "a(X):e(X),!d(X,X).",
                "a(X,X):e(X),!d(X).", "d(X):e(X),!a(X).", "e(X):d(X),!d(X).");
        due(x, WITHOUT_STRATA, "a(X):e(X),!a(X).", "a(X):e(X),!b(X).", "a(X):e(X),!c(X).", "a(X):e(X),!d(X).");
    }

    private static void restingStrictly() {
        Checks.says("it rests strictly on those of atoms with !, n, s, m and x;");
        for (String literal : new String[] {"!b(1)", "N~n(b(X))", "N~s(X;b(X))", "N~m(X;b(X))", "N~x(X;b(X))"}) {
            Stratahold x = Checks.with("a(1):" + literal + ".");
            due(x, SAFE, "b(1):c(1).", "a(1):b(1).", "b(1,1):a(1).", ":a(1),b(1).", "c(1):a(1).");
            due(x, WITHOUT_STRATA, "b(1):a(1).", "b(1):a(1)^1.", "b(1):1*a(1).", "b(1):!a(1).", "?b(1):a(1).");
            due(x, WITHOUT_STRATA, "a(1):!a(1).", "a(1):c(1),!a(1).", "?a(1):a(1).");
            Checks.add(x, "c(1):a(1).");
            due(x, WITHOUT_STRATA, "b(1):c(1).", "b(1):d(1),2*c(X).");
            due(x, SAFE, "a(1):c(1).", "b(1):d(1).");
            x.drop(0);
            due(x, SAFE, "b(1):c(1).", "b(1):a(1).");
        }
    }

    private static void longLoops() {
        Checks.says("There are strata if no predicate rests on itself, over others, with a strict one among them.");
        for (int strict = 0; strict < 12; strict++) {
            Stratahold x = new Stratahold();
            for (int i = 0; i < 11; i++) {
                Checks.add(x, (char) ('b' + i) + "(1):" + (i == strict ? "!" : "") + (char) ('a' + i) + "(1).");
            }
            due(x, strict < 11 ? WITHOUT_STRATA : SAFE, "a(1):l(1).", "a(1):1*l(X).", "a(1):e(1),l(1)^1.");
            due(x, WITHOUT_STRATA, "a(1):!l(1).", "?a(1):l(1).", "a(N):N~n(l(X)).", "l(1):!l(1).");
            due(x, SAFE, "l(1):!a(1).", "a(1,1):!l(1).", ":l(1),a(1).", "?l(1):a(1).", "m(1):!l(1).");
        }
    }

    private static void restingOfChoices() {
        Checks.says("that of the head of a choice rests strictly on all of the body.");
        for (String literal : new String[] {"b(X)", "b(X)^1", "b(1),1*b(X)", "b(1),!b(2)", "X~n(b(1))"}) {
            String head = literal.contains("(X)") && !literal.contains("*") ? "?a(X):" : "?a(1):";
            Stratahold x = Checks.with(head + literal + ".");
            due(x, WITHOUT_STRATA, "b(1):a(1).", "?b(1):a(1).", "?a(1):a(1).", "b(X):a(X)^1.");
            due(x, SAFE, "b(1):c(1).", "?a(1):b(1).", "a(1):a(1).", "?c(1):a(1).", ":a(1),b(1).");
        }
    }

    private static int stratum(Stratahold x, String fact) {
        return x.stratum(Checks.place(x, fact));
    }

    private static void greatestStratum() {
        Checks.says("The stratum of a predicate is the greatest number of strict ones on a way from it down.");
        Stratahold x = Checks.with("a(1). b(1):!z(1). c(1):b(1). d(1):!z(1),c(1). e(1):d(1),!z(1),!y(1). f(1):e(1). ?g(X):f(X). h(1):g(1),e(1).");
        int[] due = {0, 1, 1, 1, 1, 1, 2, 2};
        for (int i = 0; i < due.length; i++) {
            Checks.due("stratum of " + (char) ('a' + i), stratum(x, (char) ('a' + i) + "(1)."), due[i]);
        }
        Checks.addAll(x, "c(2):!b(7). f(2):!d(2). a(1,1).");
        Checks.due("a greater number", stratum(x, "c(1)."), 2);
        Checks.due("what rests on it", stratum(x, "d(1)."), 2);
        Checks.due("what rests strictly on that", stratum(x, "f(1)."), 3);
        Checks.due("what is chosen", stratum(x, "g(1)."), 4);
        Checks.due("of another predicate", stratum(x, "a(1,1)."), 0);
        x.drop(8);
        Checks.due("the way is gone", stratum(x, "f(1)."), 2);
        Stratahold y = Checks.with("a(1). b(1):c(1). c(1):b(1). b(X):a(X). d(1):!b(2). d(1):e(1). e(1):d(1).");
        Checks.due("a loop without a strict one", stratum(y, "c(1)."), 0);
        Checks.due("a loop above it", stratum(y, "e(1)."), 1);
    }
}
