/** Promises 15 to 25: facts, factsAnew, predicate, argument, place, standsAnew, matches and so on. */
public final class ModelTest {
    private static final Class<IllegalArgumentException> ARGUMENT = IllegalArgumentException.class;
    private static final Class<IllegalStateException> STATE = IllegalStateException.class;
    private static final Class<IndexOutOfBoundsException> INDEX = IndexOutOfBoundsException.class;

    public static void main(String[] args) {
        order();
        codes();
        placesOutOfRange();
        texts();
        atoms();
        windows();
        negation();
        atLeast();
        comparisons();
        calculations();
        counting();
        madeTerms();
        strataAndRounds();
        roundsOfRecursion();
        likeAtoms();
        goals();
        manyGoals();
        anew();
        Checks.end();
    }

    private static void order() {
        Stratahold x = Checks.with("b(1). a(2,1). a(s[1]). a(2). a(z). a(1,9,9). a(10). a(1,2). a(a). a(1,1). a(9).");
        Checks.dueModel("facts in order", x, "a(2) a(9) a(10) a(a) a(z) a(s[1]) a(1,1) a(1,2) a(2,1) a(1,9,9) b(1)");
        Checks.due("facts", x.facts(), 11);
        Stratahold y = Checks.with("z(1,2,3). a(1).");
        Checks.due("predicate of z/3", y.predicate(1), 103);
        Checks.due("predicate of a/1", y.predicate(0), 1);
    }

    private static void codes() {
        Stratahold x = Checks.with("a(0). a(99). a(a). a(z). a(a[0]). a(z[z]). a(s[s[0]]). a(s[s[s[99]]]). a(z[z[z[z]]]).");
        int[] codes = {0, 99, 100, 125, 300, 25325, 200 * 319 + 118, 200 * (200 * (200 * 100 + 119) + 119) + 118, 1013065325};
        Checks.due("facts", x.facts(), codes.length);
        for (int place = 0; place < codes.length; place++) {
            Checks.due("the code at " + place, x.argument(place, 0), codes[place]);
            Checks.due("no argument at " + place, x.argument(place, 1), Stratahold.NONE);
            Checks.due("nor a third at " + place, x.argument(place, 2), Stratahold.NONE);
        }
        Stratahold y = Checks.with("b(7,c,s[1]).");
        Checks.due("argument 0", y.argument(0, 0), 7);
        Checks.due("argument 1", y.argument(0, 1), 102);
        Checks.due("argument 2", y.argument(0, 2), 518);
        Checks.due("the same written otherwise", Checks.place(Checks.with("a(7)."), "a(07)."), 0);
    }

    private static void placesOutOfRange() {
        Stratahold x = Checks.with("a(1). b(X):a(X).");
        for (int place : new int[] {-1, 2, Integer.MIN_VALUE, Integer.MAX_VALUE}) {
            Checks.dueThrow("predicate(" + place + ")", INDEX, () -> x.predicate(place));
            Checks.dueThrow("argument(" + place + ", 0)", INDEX, () -> x.argument(place, 0));
            Checks.dueThrow("argument(" + place + ", 3)", INDEX, () -> x.argument(place, 3));
            Checks.dueThrow("stratum(" + place + ")", INDEX, () -> x.stratum(place));
            Checks.dueThrow("round(" + place + ")", INDEX, () -> x.round(place));
        }
        for (int argument : new int[] {-1, 3, Integer.MIN_VALUE, Integer.MAX_VALUE}) {
            Checks.dueThrow("argument(1, " + argument + ")", ARGUMENT, () -> x.argument(1, argument));
        }
        int[][] deltas = {{-1, 0}, {13, 0}, {0, -1}, {0, 101}, {13, 101}, {Integer.MAX_VALUE, 0}, {0, Integer.MIN_VALUE}};
        for (int[] d : deltas) {
            Checks.dueThrow("delta(" + d[0] + ", " + d[1] + ")", INDEX, () -> x.delta(d[0], d[1]));
        }
        Checks.due("delta(12, 100)", x.delta(12, 100), 0);
        Checks.due("delta(0, 0)", x.delta(0, 0), 1);
        Checks.due("delta(0, 1)", x.delta(0, 1), 1);
        Stratahold y = new Stratahold();
        Checks.dueThrow("predicate(0) of nothing", INDEX, () -> y.predicate(0));
    }

    private static void texts() {
        Stratahold x = Checks.with("a(1). a(2,3). b(X):a(X).");
        for (String text : new String[] {"", "a(1)", "a(1,).", "a(1):b(1).", "?a(1):b(1).", ":b(1)."}) {
            Checks.write(x, text);
            Checks.dueThrow("place of " + text, STATE, x::place);
            Checks.dueThrow("standsAnew of " + text, STATE, () -> x.standsAnew() ? 1 : 0);
            Checks.dueThrow("matches of " + text, STATE, x::matches);
            Checks.dueThrow("matchesByGoals of " + text, STATE, x::matchesByGoals);
            Checks.dueThrow("whyNot of " + text, STATE, x::whyNot);
        }
        for (String text : new String[] {"a(X).", "c(X).", "a(2,s[X])."}) {
            Checks.write(x, text);
            Checks.dueThrow("place of " + text, STATE, x::place);
            Checks.dueThrow("standsAnew of " + text, STATE, () -> x.standsAnew() ? 1 : 0);
            Checks.dueThrow("whyNot of " + text, STATE, x::whyNot);
        }
        Checks.due("place of a(1)", Checks.place(x, "a(1)."), 0);
        Checks.due("standsAnew of it", x.standsAnew(), true);
        Checks.due("place of b(1)", Checks.place(x, "b(1)."), 2);
        Checks.due("standsAnew of it", x.standsAnew(), true);
        Checks.due("place of a(2,3)", Checks.place(x, "a(2,3)."), 1);
        Checks.due("place of b(2)", Checks.place(x, "b(2)."), Stratahold.NONE);
        Checks.due("standsAnew of it", x.standsAnew(), false);
        Checks.due("place of a(1,1)", Checks.place(x, "a(1,1)."), Stratahold.NONE);
    }

    private static void atoms() {
        Stratahold x = Checks.with("e(1,2). e(2,3). e(3,1). e(3,3). t(X,Z):e(X,Y),e(Y,Z). l(X):e(X,X). o(X):e(1,X). k(5):e(3,Y).");
        Checks.dueModel("joins", x, "e(1,2) e(2,3) e(3,1) e(3,3) k(5) l(3) o(2) t(1,3) t(2,1) t(2,3) t(3,1) t(3,2) t(3,3)");
        Stratahold a = Checks.with("e(1,2). e(2,3). t(A,Z):e(A,B),e(B,Z). u(A):e(B,A),A#B. v(s[A]):e(A,Z).");
        Checks.dueModel("the first variable", a, "e(1,2) e(2,3) t(1,3) u(2) u(3) v(s[1]) v(s[2])");
        Stratahold y = Checks.with("a(1). a(b). a(s[1]). a(s[b]). a(t[s[2]]). p(X):a(s[X]). q(X):a(t[X]). r(X,X):a(t[s[X]]). u(s[b]):a(b).");
        Checks.dueModel("made ones in bodies", y, "a(1) a(b) a(s[1]) a(s[b]) a(t[s[2]]) p(1) p(b) q(s[2]) r(2,2) u(s[b])");
    }

    private static void windows() {
        Stratahold x = Checks.with("r(X):a(X)^1. q(X):a(X)^0. a(2):b(1). a(1).");
        Checks.addAll(x, "b(1).");
        Checks.dueModel("at once, but what is not told", x, "a(1) a(2) b(1) q(1) r(1)");
        x.tick(1);
        Checks.dueModel("a tick later", x, "a(1) a(2) b(1) r(1)");
        Checks.add(x, "a(2).");
        Checks.dueModel("one told anew", x, "a(1) a(2) b(1) q(2) r(1) r(2)");
        x.tick(1);
        Checks.dueModel("two ticks later", x, "a(1) a(2) b(1) r(2)");
        Checks.add(x, "p(X,Y):a(X)^1,a(Y).");
        Checks.dueModel("one with and one without", x, "a(1) a(2) b(1) p(2,1) p(2,2) r(2)");
        x.tick(5);
        Checks.dueModel("all too old", x, "a(1) a(2) b(1)");
        Stratahold y = Checks.with("a(1). r(X):a(X)^99.");
        for (int i = 0; i < 19; i++) {
            y.tick(5);
        }
        y.tick(4);
        Checks.due("99 ticks later", Checks.has(y, "r(1)."), true);
        y.tick(1);
        Checks.due("100 ticks later", Checks.has(y, "r(1)."), false);
    }

    private static void negation() {
        Stratahold x = Checks.with("a(1). a(2). a(3). b(2). u(X):a(X),!b(X). v(X):a(X),!u(X). w(7):!b(9). z(8):!b(2).");
        Checks.dueModel("what is not there", x, "a(1) a(2) a(3) b(2) u(1) u(3) v(2) w(7)");
        Checks.withdraw(x, "b(2).");
        Checks.dueModel("with nothing there", x, "a(1) a(2) a(3) u(1) u(2) u(3) w(7) z(8)");
        Stratahold y = Checks.with("a(1). a(2). e(1,s[1]). n(X):a(X),!e(X,s[X]).");
        Checks.dueModel("made ones", y, "a(1) a(2) e(1,s[1]) n(2)");
    }

    private static void atLeast() {
        Stratahold x = Checks.with("g(1,1). g(1,2). g(2,2). g(3,1). a(1). a(2). a(3). a(4).");
        Checks.addAll(x, "w(X):a(X),2*g(X,Y). v(X):a(X),1*g(X,X). u(9):4*g(X,Y). u(8):5*g(X,Y). u(7):2*g(X,X). u(6):3*g(X,X).");
        Checks.addAll(x, "u(5):0*q(X). u(4):1*q(X).");
        Checks.dueModel("at least", x, "a(1) a(2) a(3) a(4) g(1,1) g(1,2) g(2,2) g(3,1) u(5) u(7) u(9) v(1) v(2) w(1)");
        Stratahold y = Checks.with("c(1). c(2). h(1,2). h(1,3). h(2,3). h(3,4). c(X):h(Y,X),2*c(Z). c(X):h(1,X),3*c(Z).");
        Checks.dueModel("counting in a loop", y, "c(1) c(2) c(3) c(4) h(1,2) h(1,3) h(2,3) h(3,4)");
        Checks.due("a round of it", y.round(Checks.place(y, "c(3).")), 1);
        Stratahold z = Checks.with("c(1). d(X):c(X). c(2):1*d(Y). c(3):2*c(Y). c(4):3*c(Y). c(5):9*c(Y).");
        Checks.dueModel("growing by counting", z, "c(1) c(2) c(3) c(4) d(1) d(2) d(3) d(4)");
        Checks.due("the round of c(2)", z.round(Checks.place(z, "c(2).")), 2);
        Checks.due("the round of c(3)", z.round(Checks.place(z, "c(3).")), 3);
        Checks.due("the round of c(4)", z.round(Checks.place(z, "c(4).")), 4);
        Checks.due("the round of d(4)", z.round(Checks.place(z, "d(4).")), 5);
    }

    private static void comparisons() {
        Stratahold x = Checks.with("a(99). a(a). a(s[0]). a(0). l(X,Y):a(X),a(Y),X<Y.");
        Checks.dueModel("<", x, "a(0) a(99) a(a) a(s[0]) l(0,99) l(0,a) l(0,s[0]) l(99,a) l(99,s[0]) l(a,s[0])");
        Stratahold y = Checks.with("a(1). a(b). e(X,Y):a(X),a(Y),X=Y. o(X,Y):a(X),a(Y),X#Y. s(X):a(X),X#X. k(X):a(X),X<X.");
        Checks.dueModel("= and #", y, "a(1) a(b) e(1,1) e(b,b) o(1,b) o(b,1)");
    }

    private static void calculations() {
        Stratahold x = Checks.with("a(3). a(40). a(b). a(s[1]). p(Y):a(X),Y~X+50. m(Y):a(X),Y~X-3. n(Y):a(X),Y~3-X. t(Y):a(X),Y~X*X.");
        Checks.dueModel("with letters and others", x, "a(3) a(40) a(b) a(s[1]) m(0) m(37) n(0) p(53) p(90) t(9)");
        Stratahold a = Checks.with("a(a). p(Y):a(X),Y~X-9. q(Y):a(X),Y~0*X. r(Y):a(X),Y~99-X. s(Y):Y~s(X;a(X)).");
        Checks.dueModel("with the first letter", a, "a(a) s(0)");
        Stratahold y = Checks.with("a(1):Z~99+0. b(Z):Z~99+1. c(Z):Z~0-0. d(Z):Z~0-1. e(Z):Z~9*11. f(Z):Z~10*10. g(Z):Z~49+50. h(Z):Z~2*49.");
        Checks.dueModel("the edges", y, "a(1) c(0) e(99) g(99) h(98)");
        Stratahold u = Checks.with("i(0). m(29). i(Y):i(X),m(Z),Y~X+7,Y<Z.");
        Checks.dueModel("counting up", u, "i(0) i(7) i(14) i(21) i(28) m(29)");
    }

    private static void counting() {
        Stratahold x = Checks.with("a(3). a(40). a(b). a(s[1]). n(C):C~n(a(X)). s(V):V~s(X;a(X)). m(V):V~m(X;a(X)). x(V):V~x(X;a(X)).");
        Checks.dueModel("of all", x, "a(3) a(40) a(b) a(s[1]) m(3) n(4) s(43) x(s[1])");
        Stratahold y = Checks.with("n(C):C~n(a(X)). s(V):V~s(X;a(X)). m(V):V~m(X;a(X)). x(V):V~x(X;a(X)).");
        Checks.dueModel("of none", y, "n(0) s(0)");
        Stratahold z = Checks.with("a(50). a(49). s(V):V~s(X;a(X)).");
        Checks.dueModel("a sum of 99", z, "a(49) a(50) s(99)");
        Checks.addAll(z, "a(1).");
        Checks.dueModel("a sum of 100", z, "a(1) a(49) a(50)");
        Stratahold u = Checks.with("g(1,5). g(1,6). g(2,5). k(1). k(2). k(3). c(K,N):k(K),N~n(g(K,V)). t(K,N):k(K),N~s(V;g(K,V)). l(K,N):k(K),N~m(V;g(K,V)). h(K,N):k(K),N~x(V;g(K,V)).");
        Checks.dueModel("by keys", u, "c(1,2) c(2,1) c(3,0) g(1,5) g(1,6) g(2,5) h(1,6) h(2,5) k(1) k(2) k(3) l(1,5) l(2,5) t(1,11) t(2,5) t(3,0)");
        Stratahold v = Checks.with("g(5,1). g(5,2). g(b,3). s(N):N~s(V;g(V,W)). c(N):N~n(g(V,V)). m(N):N~m(V;g(W,V)). x(N):N~x(V;g(s[V],W)).");
        Checks.dueModel("once for each fact", v, "c(0) g(5,1) g(5,2) g(b,3) m(1) s(10)");
        Stratahold w = Checks.with("a(s[2]). a(s[4]). a(7). s(N):N~s(V;a(s[V])). n(N):N~n(a(s[V])). q(N):N~s(V;a(V)).");
        Checks.dueModel("inside made ones", w, "a(7) a(s[2]) a(s[4]) n(2) q(7) s(6)");
        Stratahold b = Checks.with("a(1). a(2). b(2). r(N):b(X),N~n(a(X)). q(N):b(X),N~s(X;a(X)).");
        Checks.dueModel("with a value that is there", b, "a(1) a(2) b(2) q(2) r(1)");
    }

    private static void madeTerms() {
        Stratahold x = Checks.with("g(1). g(s[X]):g(X).");
        Checks.dueModel("up to the depth 3", x, "g(1) g(s[1]) g(s[s[1]]) g(s[s[s[1]]])");
        Checks.due("its last round", x.round(3), 3);
        Stratahold y = Checks.with("g(b). h(s[t[X]]):g(X). g(X):h(X). k(X):g(s[X]).");
        Checks.dueModel("two at once", y, "g(b) g(s[t[b]]) h(s[t[b]]) k(t[b])");
        Stratahold z = Checks.with("a(s[s[s[1]]]). b(X,s[X]):a(s[X]). c(s[X]):a(X).");
        Checks.dueModel("what is taken off and put on", z, "a(s[s[s[1]]]) b(s[s[1]],s[s[s[1]]])");
    }

    private static void strataAndRounds() {
        Stratahold x = Checks.with("a(1). b(X):a(X). c(X):b(X),!d(X). e(X):c(X). f(N):N~n(e(X)). f(9). d(2). ?h(X):a(X).");
        Checks.dueModel("strata", x, "a(1) b(1) c(1) d(2) e(1) f(1) f(9) h(1)");
        int[][] due = {{0, 0}, {0, 1}, {1, 1}, {0, 0}, {1, 2}, {2, 1}, {2, 0}, {1, 0}};
        for (int place = 0; place < due.length; place++) {
            Checks.due("the stratum at " + place, x.stratum(place), due[place][0]);
            Checks.due("the round at " + place, x.round(place), due[place][1]);
        }
        int[][] deltas = {{2, 1, 0}, {1, 1, 1}, {1, 1, 0}};
        for (int s = 0; s < deltas.length; s++) {
            for (int r = 0; r < 3; r++) {
                Checks.due("delta(" + s + ", " + r + ")", x.delta(s, r), deltas[s][r]);
            }
        }
        Checks.due("stratum of a fact that rests on others", x.stratum(Checks.place(x, "f(9).")), 2);
        Stratahold y = new Stratahold();
        for (int i = 0; i < 12; i++) {
            Checks.add(y, (char) ('b' + i) + "(1):!" + (char) ('a' + i) + "(1).");
        }
        Checks.dueModel("twelve strata", y, "b(1) d(1) f(1) h(1) j(1) l(1)");
        Checks.due("a stratum far up", y.stratum(5), 11);
        Checks.add(y, "a(1).");
        Checks.dueModel("turned round", y, "a(1) c(1) e(1) g(1) i(1) k(1) m(1)");
        Checks.due("the top stratum", y.stratum(6), 12);
        Checks.due("its delta", y.delta(12, 1), 1);
        Checks.due("a way of 13", Checks.refusal(y, "n(1):!m(1)."), 5);
        Checks.due("a cycle of 13", Checks.refusal(y, "a(1):!m(1)."), 3);
    }

    private static void roundsOfRecursion() {
        Stratahold x = Checks.with("e(1,2). e(2,3). e(3,4). e(4,5). t(X,Y):e(X,Y). t(X,Z):e(X,Y),t(Y,Z). t(1,3).");
        String[] facts = {"t(1,2).", "t(1,3).", "t(2,4).", "t(1,4).", "t(2,5).", "t(1,5).", "t(3,5)."};
        int[] rounds = {1, 0, 2, 3, 3, 4, 2};
        for (int i = 0; i < facts.length; i++) {
            Checks.due("the round of " + facts[i], x.round(Checks.place(x, facts[i])), rounds[i]);
        }
        int[] deltas = {5, 4, 2, 2, 1, 0};
        for (int r = 0; r < deltas.length; r++) {
            Checks.due("delta(0, " + r + ")", x.delta(0, r), deltas[r]);
        }
        Stratahold y = new Stratahold();
        Checks.addAll(y, "i(0). i(Y):i(X),Y~X+1,m(Z),Y<Z. m(31).");
        Checks.due("31 facts of one kind and a bound", y.facts(), 32);
        Checks.due("the last round", y.round(Checks.place(y, "i(30).")), 30);
        Checks.due("its delta", y.delta(0, 30), 1);
        Checks.due("the next one's delta", y.delta(0, 31), 0);
    }

    private static void dueMatches(Stratahold x, String text, int want) {
        Checks.due("matches of " + text, Checks.matches(x, text), want);
        Checks.due("matchesByGoals of " + text, x.matchesByGoals(), want);
    }

    private static void likeAtoms() {
        Stratahold x = Checks.with("e(1,2). e(2,1). e(3,3). e(b,b). e(s[1],1). e(s[s[2]],2). e(1). e(s[1],s[1]).");
        dueMatches(x, "e(X,Y).", 7);
        dueMatches(x, "e(X,X).", 3);
        dueMatches(x, "e(A,A).", 3);
        dueMatches(x, "e(A,Z).", 7);
        dueMatches(x, "e(X).", 1);
        dueMatches(x, "e(X,Y,Z).", 0);
        dueMatches(x, "e(1,Y).", 1);
        dueMatches(x, "e(X,1).", 2);
        dueMatches(x, "e(s[X],X).", 1);
        dueMatches(x, "e(s[X],Y).", 3);
        dueMatches(x, "e(s[s[X]],X).", 1);
        dueMatches(x, "e(t[X],Y).", 0);
        dueMatches(x, "e(2,1).", 1);
        dueMatches(x, "e(2,2).", 0);
        dueMatches(x, "f(X).", 0);
        dueMatches(x, "e(s[X],s[X]).", 1);
    }

    private static void goals() {
        Stratahold x = Checks.with("e(1,2). e(2,3). e(3,1). e(4,4). t(X,Y):e(X,Y). t(X,Z):e(X,Y),t(Y,Z). u(X):t(X,Y),!v(X). v(1).");
        dueMatches(x, "t(X,Y).", 10);
        dueMatches(x, "t(1,X).", 3);
        dueMatches(x, "t(X,1).", 3);
        dueMatches(x, "t(X,X).", 4);
        dueMatches(x, "t(4,1).", 0);
        dueMatches(x, "u(X).", 3);
        dueMatches(x, "v(X).", 1);
        Stratahold y = Checks.with("a(1). a(2). ?c(X):a(X). d(X,N):c(X),N~n(a(Y)). g(s[X]):a(X). g(s[X]):g(X). k(M):d(X,N),M~N+X. r(X):a(X)^1,2*a(Y).");
        dueMatches(y, "c(X).", 1);
        dueMatches(y, "d(1,2).", 1);
        dueMatches(y, "d(X,3).", 0);
        dueMatches(y, "g(X).", 6);
        dueMatches(y, "g(s[s[X]]).", 4);
        dueMatches(y, "g(s[s[s[2]]]).", 1);
        dueMatches(y, "k(X).", 1);
        dueMatches(y, "k(3).", 1);
        dueMatches(y, "k(4).", 0);
        dueMatches(y, "r(X).", 2);
        Stratahold z = Checks.with("a(1). a(2). b(X):a(X). a(X):b(X),c(X). a(3):b(1). q(3).");
        dueMatches(z, "b(X).", 3);
        dueMatches(z, "b(3).", 1);
        dueMatches(z, "a(3).", 1);
    }

    /** More goals than are kept one by one. */
    private static void manyGoals() {
        Stratahold x = new Stratahold();
        for (int i = 0; i < 16; i++) {
            Checks.add(x, "a(" + i + ").");
        }
        Checks.addAll(x, "q(X,Y):e(Y,X). e(15,14). e(14,15). t(X,Y):a(X),a(Y),q(X,Y). r(X,Y):a(X),a(Y),t(X,Y),X<Y.");
        dueMatches(x, "t(X,Y).", 2);
        dueMatches(x, "r(X,Y).", 1);
        dueMatches(x, "q(X,Y).", 2);
        dueMatches(x, "r(15,X).", 0);
    }

    private static void anew() {
        Stratahold x = Checks.with("e(1,2). e(2,3). t(X,Y):e(X,Y). t(X,Z):e(X,Y),t(Y,Z). ?c(X):e(X,Y). :c(1). u(X):e(X,Y),!c(X).");
        Checks.dueModel("all of it", x, "c(2) e(1,2) e(2,3) t(1,2) t(1,3) t(2,3) u(1)");
        Checks.write(x, "t(1,3).");
        Checks.due("standsAnew of what is derived", x.standsAnew(), true);
        Checks.write(x, "c(2).");
        Checks.due("standsAnew of what is chosen", x.standsAnew(), true);
        Checks.write(x, "c(1).");
        Checks.due("standsAnew of what is not", x.standsAnew(), false);
        x.begin();
        Checks.add(x, "c(1).");
        Checks.withdraw(x, "e(1,2).");
        Checks.write(x, "t(1,3).");
        Checks.due("standsAnew together", x.standsAnew(), true);
        Checks.due("factsAnew together", x.factsAnew(), 7);
        Checks.due("matchesByGoals together", x.matchesByGoals(), 1);
    }
}
