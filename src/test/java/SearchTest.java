/** How choices are made: candidates, groups, ways and their order, and what is refused then. */
public final class SearchTest {
    public static void main(String[] args) {
        firstOnes();
        groupsByTheLastArgument();
        colours();
        orderOfChoices();
        orderOfStrata();
        groupsThatComeThen();
        twelveWays();
        tooBigOnAWay();
        toldAndChosen();
        deepOnes();
        afterChanges();
        Checks.end();
    }

    private static void firstOnes() {
        Stratahold x = Checks.with("a(3). a(2). a(b). ?c(X):a(X).");
        Checks.dueModel("the first of one group", x, "a(2) a(3) a(b) c(2)");
        Checks.due("the stratum of what is chosen", x.stratum(3), 1);
        Checks.due("the round of what is chosen", x.round(3), 0);
        Checks.add(x, "d(X):c(X).");
        Checks.due("the round of what comes of it", x.round(Checks.place(x, "d(2).")), 1);
        Stratahold y = Checks.with("?c(X):a(X).");
        Checks.dueModel("no candidate", y, "");
    }

    private static void groupsByTheLastArgument() {
        Stratahold x = Checks.with("g(1,2,3). g(1,2,2). g(1,3,7). g(2,2,9). g(2,2,8). ?c(X,Y,Z):g(X,Y,Z). ?d(X,Z):g(X,Y,Z). ?e(Z):g(X,Y,Z).");
        Checks.dueModel("by number of arguments", x, "c(1,2,2) c(1,3,7) c(2,2,8) d(1,2) d(2,8) e(2)"
                + " g(1,2,2) g(1,2,3) g(1,3,7) g(2,2,8) g(2,2,9)");
        Stratahold y = Checks.with("a(1). a(2). ?c(X,s[X]):a(X). ?d(s[X],X):a(X).");
        Checks.dueModel("groups of one", y, "a(1) a(2) c(1,s[1]) c(2,s[2]) d(s[1],1) d(s[2],2)");
    }

    private static void colours() {
        Stratahold x = Checks.with("n(1). n(2). n(3). k(0). k(1). e(1,2). e(2,3). ?h(X,C):n(X),k(C).");
        Checks.dueModel("the first way", x, "e(1,2) e(2,3) h(1,0) h(2,0) h(3,0) k(0) k(1) n(1) n(2) n(3)");
        Checks.due("the constraint", Checks.add(x, ":e(X,Y),h(X,C),h(Y,C)."), 1);
        Checks.dueModel("the third way", x, "e(1,2) e(2,3) h(1,0) h(2,1) h(3,0) k(0) k(1) n(1) n(2) n(3)");
        Checks.due("a cycle of three in two colours", Checks.refusal(x, "e(1,3)."), 8);
        Checks.due("a third colour", Checks.add(x, "k(2)."), 8);
        Checks.due("the cycle then", Checks.add(x, "e(1,3)."), 9);
        Checks.due("h(2,1)", Checks.has(x, "h(2,1)."), true);
        Checks.due("h(3,2)", Checks.has(x, "h(3,2)."), true);
        Checks.due("six ways are enough", Checks.matches(x, "h(1,0)."), 1);
    }

    private static void orderOfChoices() {
        Stratahold x = Checks.with("k(1). k(2). ?z(X):k(X). ?a(X):k(X). :z(X),a(X).");
        Checks.dueModel("the later choice turns", x, "a(2) k(1) k(2) z(1)");
        Stratahold y = Checks.with("k(1). k(2). ?a(X):k(X). ?z(X):k(X). :z(X),a(X).");
        Checks.dueModel("numbers and not letters", y, "a(1) k(1) k(2) z(2)");
        Stratahold z = Checks.with("k(1). k(2). ?h(X,Y):k(X),k(Y). :h(1,X),h(2,X).");
        Checks.dueModel("the last group of a choice", z, "h(1,1) h(2,2) k(1) k(2)");
        Checks.add(z, ":h(2,2).");
        Checks.dueModel("the first group of it", z, "h(1,2) h(2,1) k(1) k(2)");
    }

    private static void orderOfStrata() {
        Stratahold x = Checks.with("k(1). k(2). ?b(X):a(Y),k(X). ?a(X):k(X). :a(X),b(X).");
        Checks.dueModel("the higher stratum turns", x, "a(1) b(2) k(1) k(2)");
        Checks.due("its stratum", x.stratum(1), 2);
        Checks.add(x, ":b(2).");
        Checks.dueModel("then the lower one", x, "a(2) b(1) k(1) k(2)");
    }

    private static void groupsThatComeThen() {
        Stratahold x = Checks.with("k(1). k(2). d(1,5). d(1,6). d(2,3). d(2,4). ?a(X):k(X). ?b(Y):a(X),d(X,Y).");
        Checks.dueModel("the first way", x, "a(1) b(5) d(1,5) d(1,6) d(2,3) d(2,4) k(1) k(2)");
        Checks.add(x, ":a(1),b(5).");
        Checks.dueModel("the second one", x, "a(1) b(6) d(1,5) d(1,6) d(2,3) d(2,4) k(1) k(2)");
        Checks.add(x, ":b(6).");
        Checks.dueModel("the first ones again", x, "a(2) b(3) d(1,5) d(1,6) d(2,3) d(2,4) k(1) k(2)");
        Checks.add(x, ":b(3).");
        Checks.dueModel("the last way", x, "a(2) b(4) d(1,5) d(1,6) d(2,3) d(2,4) k(1) k(2)");
        Checks.due("no way", Checks.refusal(x, ":b(X),k(Y),Y<X."), 8);
    }

    private static Stratahold numbered(int candidates) {
        Stratahold x = new Stratahold();
        for (int i = 1; i <= candidates; i++) {
            Checks.add(x, "a(" + i + ").");
        }
        return Checks.addAll(x, "?c(X):a(X). :c(X),m(Y),X<Y.");
    }

    private static void twelveWays() {
        Stratahold x = numbered(13);
        Checks.due("the twelfth way", Checks.refusal(x, "m(12)."), 0);
        Checks.due("the thirteenth way", Checks.refusal(x, "m(13)."), 8);
        Checks.due("all thirteen", Checks.refusal(x, "m(14)."), 8);
        Checks.add(x, "m(12).");
        Checks.due("what is chosen", Checks.has(x, "c(12)."), true);
        Checks.due("one is chosen", Checks.matches(x, "c(X)."), 1);
        Stratahold y = numbered(12);
        Checks.due("all twelve", Checks.refusal(y, "m(13)."), 8);
        Checks.due("the last of them", Checks.refusal(y, "m(12)."), 0);
    }

    private static void tooBigOnAWay() {
        String facts = "a(1). a(2). a(3). a(4). a(5). a(6). ";
        Stratahold x = Checks.with(facts + "k(1). k(2). ?h(X):k(X). p(X,Y):h(2),a(X),a(Y).");
        Checks.due("a way that is not come to", x.facts(), 9);
        Checks.due("a way that is come to", Checks.refusal(x, ":h(1)."), 6);
        Checks.add(x, "k(3).");
        Checks.due("though a later one would do", Checks.refusal(x, ":h(1)."), 6);
        Stratahold y = Checks.with(facts + "k(1). k(2). ?h(X):k(X). ?q(X,Y):h(2),a(X),a(Y).");
        Checks.due("too many candidates on it", Checks.refusal(y, ":h(1)."), 6);
    }

    private static void toldAndChosen() {
        Stratahold x = Checks.with("a(1). a(2). c(1). ?c(X):a(X). d(X):c(X).");
        Checks.dueModel("what is told is chosen", x, "a(1) a(2) c(1) d(1)");
        Checks.due("its reasons", x.reasons(2), 2);
        Checks.due("why", x.why(2), Stratahold.TOLD);
        Checks.add(x, ":c(X),c(Y),X<Y.");
        Checks.withdraw(x, "c(1).");
        Checks.add(x, "c(2).");
        Checks.dueModel("another is told", x, "a(1) a(2) c(2) d(2)");
        Checks.due("its reasons", x.reasons(2), 2);
        Stratahold y = Checks.with("a(1). ?c(X):a(X). ?c(X):b(X). b(2). b(1). c(3):a(1).");
        Checks.dueModel("two choices of one", y, "a(1) b(1) b(2) c(1) c(3)");
        Checks.due("chosen counts once", y.reasons(3), 1);
        Checks.due("why", y.why(3), Stratahold.CHOSEN);
    }

    private static void deepOnes() {
        Stratahold x = Checks.with("a(s[s[s[1]]]). a(s[2]). a(b). ?c(s[X]):a(X).");
        Checks.dueModel("what is too deep is no candidate", x, "a(b) a(s[2]) a(s[s[s[1]]]) c(s[b])");
        Checks.due("nor is it counted", Checks.refusal(x, ":c(s[b])."), 0);
        Checks.add(x, ":c(s[b]).");
        Checks.dueModel("the other one", x, "a(b) a(s[2]) a(s[s[s[1]]]) c(s[s[2]])");
        Checks.due("there is no third one", Checks.refusal(x, ":c(s[s[X]])."), 8);
    }

    private static void afterChanges() {
        Stratahold x = Checks.with("a(1). a(2). a(3). ?c(X):a(X). :c(1). :c(2).");
        Checks.dueModel("the third", x, "a(1) a(2) a(3) c(3)");
        x.drop(1);
        Checks.dueModel("the first again", x, "a(1) a(2) a(3) c(1)");
        Checks.due("withdraw what is chosen from", Checks.withdraw(x, "a(1)."), 2);
        Checks.dueModel("what is left", x, "a(2) a(3) c(3)");
        Checks.write(x, "a(3).");
        Checks.dueThrow("withdraw the last way", IllegalStateException.class, x::withdraw);
        Checks.add(x, "a(3).", 2);
        Checks.dueThrow("the last way goes", IllegalStateException.class, () -> x.tick(2));
        Checks.due("it still is there", x.tick(1), 0);
        Checks.dueModel("it still is chosen", x, "a(2) a(3) c(3)");
    }
}
