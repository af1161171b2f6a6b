import java.util.NoSuchElementException;

/** Promises 26 to 29: reasons, least, why, whyNot. */
public final class ReasonsTest {
    private static final Class<IndexOutOfBoundsException> INDEX = IndexOutOfBoundsException.class;

    public static void main(String[] args) {
        placesOutOfRange();
        counts();
        instances();
        leastProofs();
        leastOfCounts();
        hugeProofs();
        firstRules();
        nearest();
        nearestLiterals();
        nearestThrows();
        Checks.end();
    }

    private static void due(Stratahold x, String fact, int reasons, int least, int why) {
        int place = Checks.place(x, fact);
        Checks.due("reasons of " + fact, x.reasons(place), reasons);
        Checks.due("least of " + fact, x.least(place), least);
        Checks.due("why of " + fact, x.why(place), why);
    }

    private static void placesOutOfRange() {
        Stratahold x = Checks.with("a(1). b(X):a(X).");
        for (int place : new int[] {-1, 2, Integer.MIN_VALUE, Integer.MAX_VALUE}) {
            Checks.dueThrow("reasons(" + place + ")", INDEX, () -> x.reasons(place));
            Checks.dueThrow("least(" + place + ")", INDEX, () -> x.least(place));
            Checks.dueThrow("why(" + place + ")", INDEX, () -> x.why(place));
        }
        Stratahold y = new Stratahold();
        Checks.dueThrow("reasons(0) of nothing", INDEX, () -> y.reasons(0));
    }

    private static void counts() {
        Stratahold x = Checks.with("e(1,2). e(2,3). e(3,1). t(X,Y):e(X,Y). t(X,Z):e(X,Y),t(Y,Z). t(2,2).");
        due(x, "e(1,2).", 1, 1, Stratahold.TOLD);
        due(x, "t(1,2).", 2, 2, 0);
        due(x, "t(2,2).", 2, 1, Stratahold.TOLD);
        due(x, "t(1,3).", 1, 4, 1);
        due(x, "t(1,1).", 1, 6, 1);
        due(x, "t(3,2).", 1, 4, 1);
        Stratahold y = Checks.with("a(1). a(2). ?c(X):a(X). c(1):a(2). d(X):c(X).");
        due(y, "c(1).", 2, 1, Stratahold.CHOSEN);
        due(y, "d(1).", 1, 2, 2);
        Checks.add(y, "c(1).");
        due(y, "c(1).", 3, 1, Stratahold.TOLD);
    }

    private static void instances() {
        Stratahold x = Checks.with("a(1). a(2). a(3). b(1):a(X). b(2):a(X),a(Y). b(3):2*a(X). b(4):a(X),N~n(a(Y)).");
        Checks.addAll(x, "b(5):a(X)^5,X=X. b(6):a(X),!a(9). b(7):N~x(X;a(X)). b(1):a(1),a(2).");
        due(x, "b(1).", 4, 2, 0);
        due(x, "b(2).", 9, 3, 1);
        due(x, "b(3).", 1, 3, 2);
        due(x, "b(4).", 3, 2, 3);
        due(x, "b(5).", 3, 2, 4);
        due(x, "b(6).", 3, 2, 5);
        due(x, "b(7).", 1, 1, 6);
        Stratahold y = Checks.with("a(1). b(X):a(X). c(1):a(X),b(Y). c(X):a(X),Y~X+0.");
        due(y, "c(1).", 2, 2, 2);
        Stratahold z = Checks.with("g(1). g(s[X]):g(X). g(X):h(s[X]). h(X):g(X).");
        due(z, "g(1).", 2, 1, Stratahold.TOLD);
        due(z, "g(s[1]).", 2, 2, 0);
        due(z, "g(s[s[1]]).", 2, 3, 0);
        due(z, "g(s[s[s[1]]]).", 1, 4, 0);
    }

    private static void leastProofs() {
        Stratahold x = Checks.with("a(1). b(X):a(X),a(X),a(X). c(X):b(X). c(X):b(X),a(X). d(X):c(X),c(X). d(X):e(X). e(X):b(X),b(X).");
        due(x, "b(1).", 1, 4, 0);
        due(x, "c(1).", 2, 5, 1);
        due(x, "e(1).", 1, 9, 5);
        due(x, "d(1).", 2, 10, 4);
        Checks.add(x, "d(X):e(X).");
        due(x, "d(1).", 3, 10, 4);
        Checks.add(x, "e(1).");
        due(x, "e(1).", 2, 1, Stratahold.TOLD);
        due(x, "d(1).", 3, 2, 4);
        Stratahold y = Checks.with("a(1). b(X):a(X). b(2):b(1). b(1):b(2). b(2):a(1),a(1).");
        due(y, "b(1).", 2, 2, 0);
        due(y, "b(2).", 2, 3, 1);
        y.drop(1);
        due(y, "b(2).", 1, 3, 3);
    }

    private static void leastOfCounts() {
        Stratahold x = Checks.with("a(1). b(X):a(X). b(2):b(1). b(3):b(2). c(1):1*b(X). c(2):2*b(X). c(3):3*b(X). c(0):0*b(X). c(4):2*b(X),a(1).");
        due(x, "b(3).", 1, 4, 2);
        due(x, "c(0).", 1, 1, 6);
        due(x, "c(1).", 1, 3, 3);
        due(x, "c(2).", 1, 6, 4);
        due(x, "c(3).", 1, 10, 5);
        due(x, "c(4).", 1, 7, 7);
        Stratahold y = Checks.with("g(1,1). g(1,2). b(X):g(X,Y). g(2,X):b(X). g(2,3):b(1). c(X):b(X),2*g(X,Y). d(X):g(X,Y)^9,!b(9).");
        due(y, "g(2,1).", 1, 3, 1);
        due(y, "g(2,3).", 1, 3, 2);
        due(y, "b(2).", 3, 4, 0);
        due(y, "c(1).", 1, 5, 3);
        due(y, "c(2).", 1, 11, 3);
        due(y, "d(1).", 2, 2, 4);
    }

    private static void hugeProofs() {
        Stratahold x = Checks.with("a(80). a(Y):a(X),a(X),a(X),Y~X+1. b(9):a(92),a(91). b(8):a(92),2*a(X). b(7):a(93),a(80).");
        int least = 1;
        for (int i = 81; i <= 92; i++) {
            least = 1 + 3 * least;
            due(x, "a(" + i + ").", 1, least, 0);
        }
        Checks.due("the last one that is not too much", least, 797161);
        for (int i = 93; i <= 99; i++) {
            due(x, "a(" + i + ").", 1, 1000000, 0);
        }
        due(x, "b(9).", 1, 1000000, 1);
        due(x, "b(8).", 1, 1 + 797161 + 1 + 4, 2);
        due(x, "b(7).", 1, 1000000, 3);
        Checks.add(x, "a(93):a(99).");
        due(x, "a(93).", 2, 1000000, 0);
        Stratahold y = Checks.with("a(80). b(7):a(98). a(Y):a(X),a(X),a(X),Y~X+1. b(7):a(94). b(7):a(92),a(91).");
        due(y, "b(7).", 3, 1000000, 0);
    }

    private static void firstRules() {
        Stratahold x = Checks.with("a(1). a(2). b(1):a(1),a(2). b(1):a(2). b(1):a(1). b(X):c(X).");
        due(x, "b(1).", 3, 2, 1);
        x.drop(1);
        due(x, "b(1).", 2, 2, 2);
        x.drop(2);
        due(x, "b(1).", 1, 3, 0);
        Checks.add(x, "b(1):a(1).");
        due(x, "b(1).", 2, 2, 4);
    }

    private static int whyNot(Stratahold x, String fact) {
        Checks.write(x, fact);
        return x.whyNot();
    }

    private static void nearest() {
        Stratahold x = Checks.with("a(1). a(2). b(2). :z(1). ?c(X):a(X). u(X):a(X),!b(X),d(X). u(X):a(X),b(X),d(X). u(3):a(1),b(2),d(9). v(s[X]):a(X),b(X).");
        Checks.due("no rule", whyNot(x, "a(9)."), Stratahold.NONE);
        Checks.due("no rule but a choice", whyNot(x, "c(2)."), Stratahold.NONE);
        Checks.due("the lowest of several", whyNot(x, "u(9)."), 20);
        Checks.due("two of the first", whyNot(x, "u(1)."), 22);
        Checks.due("two of the second", whyNot(x, "u(2)."), 32);
        Checks.due("a head without variables", whyNot(x, "u(3)."), 42);
        Checks.due("heads that cannot be it", whyNot(x, "v(1)."), Stratahold.NONE);
        Checks.due("a head that can", whyNot(x, "v(s[1])."), 51);
        Checks.due("none of it holds", whyNot(x, "v(s[3])."), 50);
        Checks.due("another number of arguments", whyNot(x, "u(1,1)."), Stratahold.NONE);
        x.drop(2);
        Checks.due("without the first", whyNot(x, "u(1)."), 31);
    }

    private static void nearestLiterals() {
        Stratahold x = Checks.with("e(1,2). e(2,3). e(2,4). p(X,Z):e(X,Y),e(Y,Z),X<Z,!e(X,X). q(Y):e(X,Z),Y~X+Z,2*e(X,W).");
        Checks.due("a head with one value twice", whyNot(x, "p(1,1)."), 1);
        Checks.due("as far as the first", whyNot(x, "p(1,9)."), 1);
        Checks.due("none", whyNot(x, "p(3,4)."), 0);
        Checks.due("a target with its value", whyNot(x, "q(3)."), 12);
        Checks.due("a target with another", whyNot(x, "q(9)."), 11);
        Checks.due("where some values do better", Checks.has(x, "q(5)."), true);
        Stratahold y = Checks.with("e(1). e(2). e(3). f(3,1). g(3). r(7):e(X),f(X,Y),g(X),2*h(Y). r(X):h(X). s(N):N~n(e(X)),h(N). s(N):N~s(X;e(X)),h(N).");
        Checks.due("the most for some values", whyNot(y, "r(7)."), 3);
        Checks.due("a count that is so", whyNot(y, "s(3)."), 21);
        Checks.due("a sum that is so", whyNot(y, "s(6)."), 31);
        Checks.due("neither", whyNot(y, "s(5)."), 20);
        Checks.add(y, "k(X):e(X)^2,h(X).");
        Checks.due("a window that is open", whyNot(y, "k(1)."), 41);
        y.tick(3);
        Checks.due("a window that is shut", whyNot(y, "k(1)."), 40);
    }

    private static void nearestThrows() {
        Stratahold x = Checks.with("a(1). b(X):a(X).");
        Checks.write(x, "b(1).");
        Checks.dueThrow("whyNot of what is there", NoSuchElementException.class, x::whyNot);
        Checks.write(x, "b(X).");
        Checks.dueThrow("whyNot with a variable", IllegalStateException.class, x::whyNot);
        Checks.write(x, "b(2):a(2).");
        Checks.dueThrow("whyNot of a rule", IllegalStateException.class, x::whyNot);
        Checks.due("whyNot of what is not", whyNot(x, "b(2)."), 0);
    }
}
