/** The edges that the document names in "The model", sentence by sentence. */
public final class EdgesOfTheModelTest {
    private static final Class<IllegalStateException> STATE = IllegalStateException.class;

    public static void main(String[] args) {
        lives();
        toldAnew();
        rounds();
        strata();
        tooDeep();
        groups();
        whatIsChosenThere();
        orderOfGroups();
        nextCandidates();
        wholeModel();
        rulesAndToldFacts();
        thirtyTwoFacts();
        thirtyTwoCandidates();
        inWhateverWay();
        brokenWithAndWithoutChoices();
        twelveWays();
        pairsOfRefusals();
        refusedTicks();
        Checks.end();
    }

    /** Lets ticks go by, and answers how many facts went. */
    private static int go(Stratahold x, int ticks) {
        int gone = 0;
        for (int left = ticks; left > 0; left -= 5) {
            gone += x.tick(Math.min(5, left));
        }
        return gone;
    }

    private static void lives() {
        Checks.says("A fact that is told has a life: it goes with the tick at which so many ticks have gone by, "
                + "never with the life 0.");
        for (int life : new int[] {1, 2, 4, 5, 6, 99, 100}) {
            for (int born : new int[] {0, 1, 7, 900}) {
                Stratahold x = Checks.with("b(1). c(X):a(X).");
                go(x, born);
                Checks.add(x, "a(1).", life);
                Checks.due("ahead of the end of " + life, go(x, life - 1), 0);
                Checks.dueModel("then", x, "a(1) b(1) c(1)");
                Checks.due("at the end of " + life, x.tick(1), 1);
                Checks.dueModel("then", x, "b(1)");
                Checks.due("told once more", Checks.add(x, "a(1)."), 2);
            }
        }
        Stratahold y = new Stratahold();
        Checks.add(y, "a(0).", 0);
        Checks.add(y, "a(1).", 1);
        Checks.add(y, "a(2).", 5);
        Checks.add(y, "a(5).", 5);
        Checks.add(y, "a(6).", 6);
        Checks.due("five at once", y.tick(5), 3);
        Checks.dueModel("then", y, "a(0) a(6)");
        Checks.due("all the others", go(y, 995), 1);
        Checks.dueModel("at the last tick", y, "a(0)");
    }

    private static void toldAnew() {
        Checks.says("Told anew, it has the new life, and was told now.");
        int[][] runs = {{3, 1}, {3, 3}, {3, 5}, {1, 100}, {100, 1}, {0, 2}, {5, 5}};
        for (int[] run : runs) {
            Stratahold x = Checks.with("r(X):a(X)^0.");
            Checks.add(x, "a(1).", run[0]);
            Checks.add(x, "a(1).", run[1]);
            Checks.due("told twice at once", go(x, run[1] - 1), 0);
            Checks.due("at the end of the new life", x.tick(1), 1);
        }
        Stratahold x = Checks.with("r(X):a(X)^1.");
        Checks.add(x, "a(1).", 3);
        x.tick(2);
        Checks.dueModel("told long ago", x, "a(1)");
        Checks.due("told anew", Checks.add(x, "a(1).", 3), 1);
        Checks.dueModel("told now", x, "a(1) r(1)");
        Checks.due("a tick", x.tick(1), 0);
        Checks.dueModel("a tick ago", x, "a(1) r(1)");
        Checks.due("two ticks", x.tick(1), 0);
        Checks.dueModel("two ticks ago", x, "a(1)");
        Checks.due("three ticks", x.tick(1), 1);
        Checks.add(x, "a(2).", 1);
        Checks.add(x, "a(2).", 0);
        Checks.due("never", go(x, 100), 0);
    }

    private static void dueRounds(Stratahold x, String rounds) {
        for (String round : rounds.split(" ")) {
            String[] sides = round.split("=");
            int place = Checks.place(x, sides[0] + ".");
            Checks.due("stratum and round of " + sides[0], x.stratum(place) + "/" + x.round(place), sides[1]);
        }
    }

    private static void rounds() {
        Checks.says("In a stratum the facts of its predicates that are told, and those that are chosen, are there in the "
                + "round 0; in each further round those that come by a rule, its body holding by facts of lower strata "
                + "and of the rounds ahead, and that are not there yet; until none comes.");
        Stratahold x = Checks.with("a(1). b(X):a(X). c(X):b(X). d(X):c(X). d(X):a(X). c(2). b(X):c(X). e(X):f(X). f(1).");
        dueRounds(x, "a(1)=0/0 b(1)=0/1 c(1)=0/2 d(1)=0/1 c(2)=0/0 b(2)=0/1 d(2)=0/1 f(1)=0/0 e(1)=0/1");
        int[] deltas = {3, 5, 1, 0};
        for (int round = 0; round < deltas.length; round++) {
            Checks.due("delta of the round " + round, x.delta(0, round), deltas[round]);
        }
        Stratahold y = Checks.with("d(X):c(X). c(X):b(X). b(X):a(X). a(1).");
        dueRounds(y, "a(1)=0/0 b(1)=0/1 c(1)=0/2 d(1)=0/3");
        Stratahold z = Checks.with("a(1):a(1). b(1):!a(1). c(5):X~2+3. d(1):0*e(X).");
        Checks.dueModel("by itself and by nothing", z, "b(1) c(5) d(1)");
        dueRounds(z, "b(1)=1/1 c(5)=0/1 d(1)=0/1");
        Stratahold u = Checks.with("a(1). b(1):a(1)^0. c(1):b(1). b(2). c(3):b(1),b(2).");
        dueRounds(u, "b(1)=0/1 c(1)=0/2 b(2)=0/0 c(3)=0/2");
        Stratahold v = Checks.with("n(0). m(30). n(Y):n(X),m(M),X<M,Y~X+1.");
        Checks.due("the last round of a chain", v.round(Checks.place(v, "n(30).")), 30);
        Checks.due("a fact in each", v.delta(0, 30), 1);
        Checks.due("none behind", v.delta(0, 31), 0);
        Stratahold most = Checks.with("n(6). n(Y):n(X),Y~X+3.");
        Checks.due("the last round that there can be", most.round(Checks.place(most, "n(99).")), 31);
        for (int round = 0; round <= 100; round++) {
            Checks.due("delta of the round " + round, most.delta(0, round), round <= 31 ? 1 : 0);
        }
    }

    private static void strata() {
        Checks.says("The model comes stratum by stratum, from 0 on.");
        Stratahold x = Checks.with("a(1). b(X):a(X),!c(X). d(X):b(X). d(X):a(X). e(X):a(X),!d(9). ?f(X):e(X). g(X):f(X),a(X). c(9).");
        dueRounds(x, "a(1)=0/0 c(9)=0/0 b(1)=1/1 d(1)=1/1 e(1)=2/1 f(1)=3/0 g(1)=3/1");
        int[][] deltas = {{2, 0, 0}, {0, 2, 0}, {0, 1, 0}, {1, 1, 0}, {0, 0, 0}};
        for (int stratum = 0; stratum < deltas.length; stratum++) {
            for (int round = 0; round < 3; round++) {
                Checks.due("delta(" + stratum + ", " + round + ")", x.delta(stratum, round), deltas[stratum][round]);
            }
        }
        Checks.add(x, "d(9).");
        Checks.dueModel("a fact that is told in a stratum above", x, "a(1) b(1) c(9) d(1) d(9)");
        dueRounds(x, "d(9)=1/0 d(1)=1/1");
    }

    private static void tooDeep() {
        Checks.says("What has a value of a depth above 3 does not come.");
        Stratahold x = Checks.with("a(s[s[s[1]]]). a(s[s[1]]). b(s[X]):a(X). c(X,1,t[X]):a(X). d(X):a(X),1*b(Y). ?e(s[X]):a(X).");
        Checks.dueModel("depths of 3 and 4", x,
                "a(s[s[1]]) a(s[s[s[1]]]) b(s[s[s[1]]]) c(s[s[1]],1,t[s[s[1]]]) d(s[s[1]]) d(s[s[s[1]]]) e(s[s[s[1]]])");
        Stratahold y = Checks.with("a(z). a(s[X]):a(X). b(s[s[X]]):a(X). c(s[s[s[X]]]):a(X).");
        Checks.dueModel("in a loop", y, "a(z) a(s[z]) a(s[s[z]]) a(s[s[s[z]]]) b(s[s[z]]) b(s[s[s[z]]]) c(s[s[s[z]]])");
        Stratahold z = Checks.with("a(s[s[s[1]]]). ?b(s[X]):a(X).");
        Checks.dueModel("no candidate", z, "a(s[s[s[1]]])");
        Checks.dueRefusal(z, ":a(X),!b(X).", 8);
    }

    private static void groups() {
        Checks.says("all instances of the head for which the body holds are the candidates; those of one choice that are "
                + "the same but for the last argument are a group (those of a head of one argument are one group); of each "
                + "group exactly one is chosen.");
        String facts = "g(1,1,2). g(1,1,1). g(1,2,5). g(1,2,4). g(2,1,3). ";
        String told = " g(1,1,1) g(1,1,2) g(1,2,4) g(1,2,5) g(2,1,3)";
        Checks.dueModel("three arguments", Checks.with(facts + "?c(X,Y,Z):g(X,Y,Z)."), "c(1,1,1) c(1,2,4) c(2,1,3)" + told);
        Checks.dueModel("two arguments", Checks.with(facts + "?c(X,Z):g(X,Y,Z)."), "c(1,1) c(2,3)" + told);
        Checks.dueModel("one argument", Checks.with(facts + "?c(Z):g(X,Y,Z)."), "c(1)" + told);
        Checks.dueModel("two that are the same", Checks.with(facts + "?c(X,X):g(X,Y,Z)."), "c(1,1) c(2,2)" + told);
        Checks.dueModel("a last one without a variable", Checks.with(facts + "?c(Z,7):g(1,X,Z)."),
                "c(1,7) c(2,7) c(4,7) c(5,7)" + told);
        Checks.dueModel("no candidate", Checks.with(facts + "?c(Z):g(9,X,Z)."), told.substring(1));
        Checks.dueModel("one candidate", Checks.with(facts + "?c(Z):g(2,X,Z)."), "c(3)" + told);
        Checks.dueModel("the same for many values", Checks.with(facts + "?c(5):g(X,Y,Z)."), "c(5)" + told);
        Checks.dueModel("two choices of one head", Checks.with(facts + "?c(Z):g(1,1,Z). ?c(Z):g(1,2,Z). ?c(Z):g(1,1,Z)."),
                "c(1) c(4)" + told);
        Checks.dueModel("by codes", Checks.with("a(s[1]). a(z). a(99). ?c(X):a(X)."), "a(99) a(z) a(s[1]) c(99)");
    }

    private static void whatIsChosenThere() {
        Checks.says("Choosing: at the beginning of its stratum, choice by choice by their numbers,");
        Stratahold x = Checks.with("a(1). a(2). ?c(X):a(X). c(2):c(1). c(3). d(X):c(X). ?e(X):c(X). e(0):e(1). ?f(X):e(X).");
        Checks.dueModel("what a rule brings is no candidate of its own", x,
                "a(1) a(2) c(1) c(2) c(3) d(1) d(2) d(3) e(0) e(1) f(0)");
        dueRounds(x, "c(1)=1/0 c(2)=1/1 c(3)=1/0 d(1)=1/1 d(2)=1/2 e(1)=2/0 e(0)=2/1 f(0)=3/0");
    }

    private static void orderOfGroups() {
        Checks.says("Groups are in order by their strata, in one stratum by the numbers of their choices, those of one choice "
                + "by their first facts; the first candidate of each one is chosen first;");
        Stratahold x = Checks.with("k(1). k(2). ?c(X):k(X). ?b(X):k(X). :b(X),c(X).");
        Checks.dueModel("numbers: the later one turns", x, "b(2) c(1) k(1) k(2)");
        Stratahold y = Checks.with("k(1). k(2). ?b(X):d(Y),k(X). ?d(X):k(X). :b(X),d(X).");
        Checks.dueModel("strata: the higher one turns", y, "b(2) d(1) k(1) k(2)");
        Stratahold z = Checks.with("k(1). k(2). j(9). j(a). ?c(Y,X):j(Y),k(X). :c(9,X),c(a,X).");
        Checks.dueModel("first facts: the last one turns", z, "c(9,1) c(a,2) j(9) j(a) k(1) k(2)");
        Stratahold u = Checks.with("p(1,5). p(1,6). p(2,3). p(2,6). ?c(X,Y):p(X,Y). :c(1,5),c(2,3).");
        Checks.dueModel("first facts, and not last arguments", u, "c(1,5) c(2,6) p(1,5) p(1,6) p(2,3) p(2,6)");
    }

    private static void nextCandidates() {
        Checks.says("if that leads to a broken constraint, the last group for which there is a further candidate gets the next "
                + "one, and those behind it (as they come then) begin with their first ones again;");
        Stratahold x = Checks.with("k(0). k(1). k(2). ?a(X):k(X). ?b(X):k(X). v(N):a(X),b(Y),Z~3*X,N~Z+Y.");
        for (int way = 0; way < 9; way++) {
            Checks.due("the way " + way, Checks.has(x, "v(" + way + ")."), true);
            Checks.due("a(" + way / 3 + ")", Checks.has(x, "a(" + way / 3 + ")."), true);
            Checks.due("b(" + way % 3 + ")", Checks.has(x, "b(" + way % 3 + ")."), true);
            Checks.dueRefusal(x, ":v(X).", 8);
            if (way < 8) {
                Checks.add(x, ":v(" + way + ").");
            }
        }
        Checks.dueRefusal(x, ":v(8).", 8);
        Checks.says("that is, the first way, in this order, in which no constraint is broken, is the model.");
        Stratahold y = Checks.with("k(1). k(2). d(1,1). d(1,2). d(2,7). ?a(X):k(X). ?b(Y):a(X),d(X,Y). :a(1),b(Y).");
        Checks.dueModel("other groups behind it", y, "a(2) b(7) d(1,1) d(1,2) d(2,7) k(1) k(2)");
        Stratahold z = Checks.with("k(1). k(2). ?a(X):k(X). ?b(X):a(1),k(X). :a(1).");
        Checks.dueModel("no group behind it", z, "a(2) k(1) k(2)");
        Stratahold u = Checks.with("k(1). k(2). ?a(X):k(X). ?b(X):a(2),k(X). :a(1). :b(1).");
        Checks.dueModel("one more group behind it", u, "a(2) b(2) k(1) k(2)");
    }

    private static void wholeModel() {
        Checks.says("A constraint is broken if its body holds in the whole model for some values.");
        Stratahold x = Checks.with("a(1). b(X):a(X). c(X):b(X),!d(X). e(X):c(X). e(2). a(2).");
        String[] broken = {":a(1).", ":a(X),b(X).", ":e(X).", ":c(X),e(X).", ":a(X),!d(X).", ":2*a(X).", ":N~n(a(X)).",
            ":a(X)^0.", ":a(X),a(Y),X<Y.", ":0*z(X).", ":!z(1).", ":X~1+1.", ":e(X),b(X),X=X,!d(X)."};
        for (String text : broken) {
            Checks.dueRefusal(x, text, 7);
        }
        String[] kept = {":d(1).", ":a(3).", ":e(X),!b(X).", ":3*a(X).", ":N~m(X;d(X)).", ":b(Y),Z~Y+99.", ":a(X),X<X.", ":X~99+1.", ":a(X),X#X.", ":b(X)^9.", ":a(1,1)."};
        for (String text : kept) {
            Checks.dueRefusal(x, text, 0);
        }
    }

    private static void dueFull(Stratahold x, int refusal, String... texts) {
        for (String text : texts) {
            Checks.dueRefusal(x, text, refusal);
            if (refusal > 0) {
                Checks.dueThrow("add of " + text, STATE, () -> x.add(0));
            }
        }
    }

    private static void rulesAndToldFacts() {
        Checks.says("if there would be more than 12 rules, constraints and choices, or more than 24 facts that are told (5),");
        for (String text : new String[] {"a(1):b(1).", ":b(1).", "?a(1):b(1)."}) {
            Stratahold x = new Stratahold();
            for (int i = 0; i < 12; i++) {
                Checks.due("number " + i + " of " + text, Checks.add(x, text), i);
            }
            dueFull(x, 5, "a(1):b(1).", ":b(1).", "?a(1):b(1).");
            dueFull(x, 0, "c(1).");
            Checks.due("one is dropped", x.drop(0), 11);
            dueFull(x, 0, "a(1):b(1).", ":b(1).", "?a(1):b(1).");
            Checks.due("another one", Checks.add(x, text), 12);
            dueFull(x, 5, "a(1):b(1).", ":b(1).", "?a(1):b(1).");
        }
        Stratahold y = new Stratahold();
        for (int i = 0; i < 24; i++) {
            Checks.due("fact " + i, Checks.add(y, "a(" + i + ").", i == 0 ? 1 : 0), i + 1);
        }
        dueFull(y, 5, "a(24).", "b(1).");
        dueFull(y, 0, "a(0).", "a(23).", "b(1):a(1).", ":b(1).", "?b(1):a(1).");
        Checks.due("one that is told", Checks.add(y, "a(5)."), 24);
        Checks.due("one goes", y.tick(1), 1);
        Checks.due("the 24th again", Checks.add(y, "b(1)."), 24);
        dueFull(y, 5, "a(0).");
        Checks.due("one is withdrawn", Checks.withdraw(y, "b(1)."), 23);
        Checks.due("the 24th again", Checks.add(y, "a(0)."), 24);
        Stratahold z = Checks.with("b(X):a(X). a(1). a(2).");
        for (int i = 0; i < 22; i++) {
            Checks.add(z, "c(" + i + ").");
        }
        dueFull(z, 5, "b(1).");
        Checks.due("what comes by a rule is not told", z.facts(), 26);
    }

    private static Stratahold numbered(int facts) {
        Stratahold x = new Stratahold();
        for (int i = 0; i < facts; i++) {
            Checks.add(x, "a(" + i + ").");
        }
        return x;
    }

    private static void thirtyTwoFacts() {
        Checks.says("if the model would have more than 32 facts, or a choice more than 32 candidates (6; in whatever way it is come to),");
        Stratahold x = Checks.addAll(numbered(16), "b(X):a(X).");
        Checks.due("32 facts by a rule", x.facts(), 32);
        dueFull(x, 6, "a(16).", "c(1).", "c(1):a(1).", "c(X):a(X),!b(99).", "?c(X):a(X).", "c(1):!d(1).");
        dueFull(x, 0, "b(7).", "b(1):a(1).", "?b(X):a(X).", ":c(1).", "c(1):d(1).", "c(s[s[s[s]]]):d(1).", "a(s[s[s[X]]]):c(X).");
        Checks.add(x, "b(7).");
        Checks.withdraw(x, "a(0).");
        Checks.due("30 facts", x.facts(), 30);
        dueFull(x, 0, "a(99).", "c(1).", "?c(X):a(X).", "c(X):a(X),b(X),!a(1).");
        dueFull(x, 6, "c(X):b(X),a(X).");
        Stratahold y = numbered(5);
        Checks.dueRefusal(y, "p(X,Y):a(X),a(Y).", 0);
        Checks.add(y, "p(X,Y):a(X),a(Y).");
        Checks.due("30 facts by a join", y.facts(), 30);
        Checks.addAll(y, "q(1). q(2).");
        dueFull(y, 6, "q(3).", "a(5).", "r(X):q(X).");
        Checks.withdraw(y, "a(0).");
        Checks.due("22 facts", y.facts(), 22);
        Stratahold z = Checks.addAll(numbered(10), "b(X):a(X). ?c(1,X):a(X). ?c(X,1):a(X).");
        Checks.due("facts with those chosen", z.facts(), 10 + 10 + 1 + 10);
        Checks.add(z, "?d(X):a(X).");
        dueFull(z, 6, "?e(X):a(X).", "?d(X):a(X),Y~1*0,Y<X.");
        dueFull(z, 0, "?d(X):a(X).", "?d(0):a(1).");
        Stratahold u = Checks.addAll(numbered(16), "b(X):a(X),!c(1). c(1).");
        Checks.write(u, "c(1).");
        Checks.due("32 facts with a withdrawal", u.withdraw(), 16);
        Checks.due("then", u.facts(), 32);
        Stratahold v = Checks.addAll(numbered(17), "c(1):a(1). b(X):a(X),!c(1).");
        Checks.due("18 facts with a rule", v.facts(), 18);
        Checks.dueThrow("34 facts by a drop", STATE, () -> v.drop(0));
        Checks.due("nothing came of it", v.facts(), 18);
    }

    private static void thirtyTwoCandidates() {
        Checks.says("if the model would have more than 32 facts, or a choice more than 32 candidates (6; in whatever way it is come to),");
        Stratahold x = Checks.with("b(0). b(16). ?c(Z):a(X),b(Y),Z~X+Y. :d(1),c(Z).");
        for (int i = 0; i < 16; i++) {
            Checks.add(x, "a(" + i + ").");
        }
        Checks.due("32 candidates", x.facts(), 19);
        dueFull(x, 6, "a(16).", "a(40).", "b(17).", "?d(X,Y):a(X),a(Y).");
        dueFull(x, 0, "a(15).", "b(1).", "?c(Z):a(X),b(Y),Z~X+Y.", "?e(Z):a(X),b(Y),Z~X+Y.", "?e(X):a(X),b(Y),X<Y.");
        Checks.due("without one", Checks.withdraw(x, "a(0)."), 17);
        Checks.due("32 candidates again", Checks.add(x, "a(16)."), 18);
        dueFull(x, 6, "a(0).");
        Stratahold y = Checks.with("b(0). b(11). b(22). ?c(X,Z):a(X),b(Z).");
        for (int i = 0; i < 10; i++) {
            Checks.add(y, "a(" + i + ").");
        }
        Checks.due("30 candidates in ten groups", y.facts(), 23);
        dueFull(y, 6, "a(10).");
        Checks.add(y, "?d(Z,X):a(X),b(Z).");
        Checks.due("each choice has its own", y.facts(), 26);
        dueFull(y, 6, "b(33).");
    }

    private static void inWhateverWay() {
        Checks.says("(6; in whatever way it is come to)");
        String facts = "a(1). a(2). a(3). a(4). a(5). a(6). k(1). k(2). k(3). ";
        Stratahold x = Checks.with(facts + "?h(X):k(X). p(X,Y):h(2),a(X),a(Y).");
        dueFull(x, 0, ":h(3).", ":k(9).");
        dueFull(x, 6, ":h(1).");
        Stratahold y = Checks.with(facts + "?h(X):k(X). ?p(X,Y):h(2),a(X),a(Y).");
        dueFull(y, 0, ":h(3).");
        dueFull(y, 6, ":h(1).");
        Stratahold z = Checks.with(facts + "c(1). p(X,Y):a(X),a(Y),!c(1). d(1):a(1). q(X,Y):a(X),a(Y),!d(1).");
        Checks.write(z, "c(1).");
        Checks.dueThrow("by a withdrawal", STATE, z::withdraw);
        Checks.dueThrow("by a drop", STATE, () -> z.drop(1));
        Checks.add(z, "c(1).", 2);
        Checks.dueThrow("by a tick", STATE, () -> z.tick(2));
        Checks.due("not by the one ahead of it", z.tick(1), 0);
        z.begin();
        Checks.withdraw(z, "c(1).");
        Checks.due("by a commit", z.commit(), 6);
    }

    private static void brokenWithAndWithoutChoices() {
        Checks.says("if a constraint would be broken, and there is no choice among the rules, constraints and choices (7), "
                + "or no way of choosing keeps all constraints,");
        Stratahold x = Checks.with("a(1). :b(X). b(X):c(X).");
        dueFull(x, 7, "b(1).", "c(2).", ":a(X).", "b(X):a(X).");
        dueFull(x, 8, "?b(X):a(X).", "?c(X):a(X).");
        dueFull(x, 0, "?d(X):b(X).", "?b(X):z(X).");
        Checks.add(x, "?d(X):z(X).");
        dueFull(x, 8, "b(1).", "c(2).", ":a(X).", "b(X):a(X).", "?b(X):a(X).");
        Checks.due("dropped", x.drop(2), 2);
        dueFull(x, 7, "b(1).", "c(2).", ":a(X).", "b(X):a(X).");
        Stratahold y = Checks.with("a(1). a(2). ?c(X):a(X). :c(1).");
        dueFull(y, 8, ":c(2).", ":a(1).", ":!c(1).");
        dueFull(y, 0, ":c(3).", ":!c(2).", "a(3).");
        y.begin();
        y.drop(0);
        Checks.add(y, "c(1).");
        Checks.due("no choice is left", y.commit(), 7);
        y.begin();
        Checks.add(y, "c(1).");
        Checks.due("one is left", y.commit(), 8);
    }

    private static void twelveWays() {
        Checks.says("or more than 12 ways would have to be tried (8).");
        for (int ways = 11; ways <= 14; ways++) {
            Stratahold x = Checks.with("?c(X):a(X). :c(X),m(Y),X<Y.");
            for (int i = 1; i <= 16; i++) {
                Checks.add(x, "a(" + i + ").");
            }
            dueFull(x, ways <= 12 ? 0 : 8, "m(" + ways + ").");
        }
        Stratahold all = Checks.with("?c(X):a(X). :c(X),m(Y),X<Y.");
        for (int i = 1; i <= 12; i++) {
            Checks.add(all, "a(" + i + ").");
        }
        dueFull(all, 8, "m(13).", ":c(X).");
        dueFull(all, 0, "m(12).");
        for (int last = 11; last <= 13; last++) {
            Stratahold y = Checks.with("k(0). k(1). k(2). k(3). ?a(X):k(X). ?b(X):k(X). v(N):a(X),b(Y),Z~4*X,N~Z+Y. :v(X),m(Y),X<Y.");
            dueFull(y, last <= 11 ? 0 : 8, "m(" + last + ").");
        }
        Stratahold fewer = Checks.with("?c(X):a(X). ?d(X):k(X). k(1). k(2). m(12).");
        for (int i = 1; i <= 12; i++) {
            Checks.add(fewer, "a(" + i + ").");
        }
        fewer.drop(1);
        dueFull(fewer, 0, ":c(X),m(Y),X<Y.");
        Checks.due("the twelfth way", Checks.add(fewer, ":c(X),m(Y),X<Y."), 2);
        Checks.due("what is chosen", Checks.has(fewer, "c(12)."), true);
        Stratahold z = Checks.with("?c(X):a(X). :c(X),m(Y),X<Y. m(3).");
        z.begin();
        for (int i = 1; i <= 3; i++) {
            Checks.add(z, "a(" + i + ").");
        }
        Checks.due("three ways", z.commit(), 0);
        Checks.write(z, "a(3).");
        Checks.dueThrow("withdraw the last one", STATE, z::withdraw);
        Checks.due("still chosen", Checks.has(z, "c(3)."), true);
    }

    /** Objects in which a text is refused for two reasons. */
    private static void pairsOfRefusals() {
        Checks.says("A change is refused if its text has an error (1), is unsafe (2), if there would be no strata (3), "
                + "if the predicate of its fact or head is owned by another module (4),");
        Checks.says("In this order.");
        Stratahold x = Checks.with("o(9):a(1). q(9):a(1). :z(1). :b(X),b(Y),X<Y. b(X):v(X). e(0). e(1). e(2). e(3).");
        x.own('o');
        x.speak(1);
        dueFull(x, 1, "o(X)", "o(X):!o(X)", "z(1)", ":a(X");
        dueFull(x, 2, "q(X):!q(X).", "o(X).", "o(X):q(9).", "p(X,Y,Z):e(X),e(Y),e(Z),!e(W).", "z(X).", "z(1):e(X),e(X),e(X),e(X).");
        dueFull(x, 3, "o(1):!o(1).", "?o(X):o(X).", "p(X,Y,Z):e(X),e(Y),e(Z),!p(1,2,3).", "z(1):!z(1).", "?b(1):b(1).");
        dueFull(x, 4, "o(1).", "o(X):e(X).", "o(X,Y,Z):e(X),e(Y),e(Z).", "?o(X):e(X).", "o(9):z(1).");
        dueFull(x, 6, "p(X,Y,Z):e(X),e(Y),e(Z).", "?p(X,Y,Z):e(X),e(Y),e(Z).");
        dueFull(x, 7, "z(1).", "b(X):e(X).", ":e(X).");
        full(x);
        Stratahold y = Checks.with("?c(X):e(X). :z(X). e(0). e(1). e(2). e(3).");
        dueFull(y, 6, "z(X,Y,Z):e(X),e(Y),e(Z).");
        dueFull(y, 8, "z(1).", ":c(X).");
        Checks.addAll(y, "e(4). e(5). z(X):p(X,Y). p(X,Y):w(1),e(X),e(Y).");
        dueFull(y, 6, "w(1).");
        dueFull(y, 8, "p(1,1).");
    }

    /** The same with 12 rules, constraints and choices, and with 24 facts that are told. */
    private static void full(Stratahold x) {
        for (int i = 0; i < 7; i++) {
            Checks.add(x, "q(9):e(" + i + ").");
        }
        dueFull(x, 1, "a(X):b(X)", ":z(1");
        dueFull(x, 2, "a(X):b(Y).", ":X<Y.");
        dueFull(x, 3, "q(1):!q(1).", "?q(1):q(1).");
        dueFull(x, 4, "o(1):a(1).", "?o(1):a(1).");
        dueFull(x, 5, ":e(X).", "p(X,Y,Z):e(X),e(Y),e(Z).", "z(X):e(X).", "?z(X):e(X).");
        dueFull(x, 7, "z(1).");
        for (int i = 0; i < 20; i++) {
            Checks.add(x, "h(" + i + ").");
        }
        dueFull(x, 1, "z(1", "o(1)");
        dueFull(x, 2, "z(X).", "o(X).");
        dueFull(x, 4, "o(1).");
        dueFull(x, 5, "z(1).", "k(1).", "v(1).");
        Stratahold y = Checks.addAll(new Stratahold(), ":z(1). r(X):h(X).");
        for (int i = 0; i < 16; i++) {
            Checks.add(y, "h(" + i + ").");
        }
        dueFull(y, 6, "z(1).", "h(16).");
        Stratahold z = Checks.addAll(new Stratahold(), "p(X,Y):h(X),h(Y),w(1). :w(1).");
        for (int i = 0; i < 24; i++) {
            Checks.add(z, "h(" + i + ").");
        }
        dueFull(z, 5, "w(1).");
        Checks.withdraw(z, "h(0).");
        dueFull(z, 6, "w(1).");
    }

    private static void refusedTicks() {
        Checks.says("What is refused changes nothing.");
        for (int broken = 1; broken <= 5; broken++) {
            Stratahold x = Checks.with("b(1). a(1). :a(X),!b(X).");
            Checks.add(x, "b(1).", broken);
            Checks.add(x, "c(1).", 1);
            for (int ticks = 5; ticks >= broken; ticks--) {
                int many = ticks;
                Checks.dueThrow(ticks + " ticks", STATE, () -> x.tick(many));
                Checks.dueModel("nothing came of them", x, "a(1) b(1) c(1)");
            }
            if (broken > 1) {
                Checks.due("the ticks ahead of it", x.tick(broken - 1), 1);
                Checks.dueModel("then", x, "a(1) b(1)");
            }
            Checks.dueThrow("the one that breaks", STATE, () -> x.tick(1));
            Checks.add(x, "b(1).", 0);
            Checks.due("five ticks", x.tick(5), broken > 1 ? 0 : 1);
        }
    }
}
