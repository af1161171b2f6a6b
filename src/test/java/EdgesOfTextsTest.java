import java.util.regex.Matcher;
import java.util.regex.Pattern;

/** The edges that the document names in "Terms" and "Texts", sentence by sentence. */
public final class EdgesOfTextsTest {
    private static final int WHOLE = Stratahold.NONE;

    public static void main(String[] args) {
        numbersAndLetters();
        depths();
        codes();
        orderOfValues();
        predicates();
        orderOfFacts();
        sixtyChars();
        withoutBlanks();
        kindsOfTexts();
        bodies();
        atoms();
        terms();
        literals();
        calculations();
        counts();
        errors();
        everySignEverywhere();
        Checks.end();
    }

    /** A text between two others: the one is whole, the other one has an error at a place. */
    private static void edge(String whole, String wrong, int place) {
        Checks.dueError(whole, WHOLE);
        Checks.dueError(wrong, place);
    }

    private static void numbersAndLetters() {
        Checks.says("A value is a number, 0 to 99, a letter a to z, or a made one: a letter a to z around a value.");
        edge("a(0).", "a(-1).", 2);
        edge("a(99).", "a(100).", 4);
        edge("a(a).", "a(`).", 2);
        edge("a(z).", "a({).", 2);
        edge("a(a[0]).", "a(`[0]).", 2);
        edge("a(z[99]).", "a({[99]).", 2);
        edge("a(a[z]).", "a(A[z]).", 3);
        edge("a(a[a[0]]).", "a(1[a[0]]).", 3);
        Stratahold x = Checks.with("l(0). h(99). n(X):l(Y),X~Y-0. n(X):h(Y),X~Y+0. o(X):l(Y),X~Y-1. o(X):h(Y),X~Y+1.");
        Checks.dueModel("0 and 99, but not -1 and 100", x, "h(99) l(0) n(0) n(99)");
    }

    private static void depths() {
        Checks.says("Its depth is how many letters are around it, one in the other; it is at most 3.");
        edge("a(s[s[s[0]]]).", "a(s[s[s[s[0]]]]).", 9);
        edge("a(s[t[u[v]]]).", "a(s[t[u[v[0]]]]).", 9);
        edge("a(1,2,s[s[s[z]]]).", "a(1,2,s[s[s[z[1]]]]).", 13);
        edge("a(s[s[s[X]]]):b(X).", "a(s[s[s[s[X]]]]):b(X).", 9);
        edge("a(X):b(s[s[s[X]]]).", "a(X):b(s[s[s[s[X]]]]).", 14);
        Stratahold x = Checks.with("a(s[s[s[0]]]). a(s[s[1]]). a(z). b(s[X]):a(X). c(s[s[X]]):a(X). d(s[s[s[X]]]):a(X).");
        Checks.dueModel("one more around each", x,
                "a(z) a(s[s[1]]) a(s[s[s[0]]]) b(s[z]) b(s[s[s[1]]]) c(s[s[z]]) d(s[s[s[z]]])");
    }

    private static void codes() {
        Checks.says("The code of a number is it itself, that of a letter 100 and its place in the alphabet from 0, "
                + "together; that of a made one 200 times the code of what is in it and 1, together, and 100 and the "
                + "place of its letter, together.");
        String[] values = {"0", "00", "9", "09", "99", "a", "z", "a[0]", "z[0]", "a[99]", "z[99]", "a[a]", "z[z]", "a[a[0]]",
            "z[z[z]]", "a[a[a[0]]]", "z[z[z[99]]]", "z[z[z[z]]]", "s[t[u[5]]]"};
        int[] codes = {0, 0, 9, 9, 99, 100, 125, 300, 325, 20100, 20125, 20300, 25325, 60300,
            5065325, 12060300, 805065325, 1013065325, 200 * (200 * (200 * 6 + 120 + 1) + 119 + 1) + 118};
        for (int i = 0; i < values.length; i++) {
            Stratahold x = Checks.with("b(" + values[i] + ",1," + values[i] + ").");
            Checks.due("the code of " + values[i], x.argument(0, 0), codes[i]);
            Checks.due("and in the third place", x.argument(0, 2), codes[i]);
            Checks.due("its place", Checks.place(x, "b(" + values[i] + ",1," + values[i] + ")."), 0);
        }
    }

    private static void orderOfValues() {
        Checks.says("Values are in order by their codes.");
        String[] values = {"0", "9", "10", "99", "a", "z", "a[0]", "z[0]", "a[1]", "a[99]", "a[a]", "z[z]", "a[a[0]]",
            "b[a[0]]", "a[b[0]]", "a[a[1]]", "z[z[z]]", "a[a[a[0]]]", "z[z[z[z]]]"};
        for (int i = 0; i + 1 < values.length; i++) {
            Stratahold x = Checks.with("k(" + values[i + 1] + "). k(" + values[i] + "). l(X,Y):k(X),k(Y),X<Y.");
            Checks.dueModel("two values", x,
                    "k(" + values[i] + ") k(" + values[i + 1] + ") l(" + values[i] + "," + values[i + 1] + ")");
        }
    }

    private static void predicates() {
        Checks.says("A predicate is a letter a to z with a number of arguments, 1 to 3.");
        edge("a(1).", "a().", 2);
        edge("z(1,2,3).", "z(1,2,3,4).", 7);
        edge("a(1).", "`(1).", 0);
        edge("z(1).", "{(1).", 0);
        Stratahold x = Checks.with("a(1). a(1,1). a(1,1,1). z(1). z(1,1,1). b(X):a(X). c(X):a(X,X). d(X):a(X,X,X).");
        Checks.dueModel("they are others", x, "a(1) a(1,1) a(1,1,1) b(1) c(1) d(1) z(1) z(1,1,1)");
        int[] due = {1, 2, 3, 5, 9, 13, 101, 103};
        for (int place = 0; place < due.length; place++) {
            Checks.due("the predicate at " + place, x.predicate(place), due[place]);
        }
        Checks.withdraw(x, "a(1,1).");
        Checks.dueModel("without one of them", x, "a(1) a(1,1,1) b(1) d(1) z(1) z(1,1,1)");
    }

    private static void orderOfFacts() {
        Checks.says("facts are in order by their letters, then by how many arguments they have, then by these, "
                + "from the first one on.");
        Stratahold x = Checks.with("b(0). a(0,0,0). a(0,0). a(s[0]). a(9). a(10,0). a(9,99). a(9,98). a(9,98,3). a(9,98,2).");
        Checks.dueModel("all of them", x,
                "a(9) a(s[0]) a(0,0) a(9,98) a(9,99) a(10,0) a(0,0,0) a(9,98,2) a(9,98,3) b(0)");
    }

    /** A text with 60 signs. */
    private static final String LONG = "a(s[X],s[Y],s[Z]):b(X,Y,Z),c(X,11),!d(X,Y,Z),N~x(W;e(W,99)).";

    private static void sixtyChars() {
        Checks.says("The text, which is typed, has at most 60 chars.");
        Checks.due("its signs", LONG.length(), 60);
        Stratahold x = new Stratahold();
        for (int i = 0; i < 60; i++) {
            Checks.due("sign " + i, x.type(LONG.charAt(i)), i + 1);
        }
        Checks.dueThrow("the 61st sign", IllegalStateException.class, () -> x.type('.'));
        Checks.due("its error", x.textError(), WHOLE);
        Checks.due("it can be added", x.add(0), 0);
        Checks.due("it stays", x.textError(), WHOLE);
        Checks.dueThrow("the 61st sign again", IllegalStateException.class, () -> x.type('.'));
        Checks.due("its length", x.clearText(), 60);
        Checks.due("it is empty then", x.clearText(), 0);
        Checks.due("a sign then", x.type('~'), 1);
        Checks.dueError(LONG.substring(0, 59), 59);
        Checks.dueError(LONG.substring(0, 59) + ",", 59);
        Checks.dueError("a(s[s[s[10]]],s[s[s[20]]],s[s[s[30]]]):b(s[s[s[4]]],s[s[s[5]", 60);
    }

    private static void withoutBlanks() {
        Checks.says("It is read without blanks:");
        Stratahold x = new Stratahold();
        Checks.dueThrow("a blank", IllegalArgumentException.class, () -> x.type(' '));
        Checks.due("no sign of it", x.clearText(), 0);
    }

    private static void kindsOfTexts() {
        Checks.says("text: fact, rule, constraint or choice, then a point. fact: atom. rule: atom : body. "
                + "constraint: : body. choice: ? atom : body.");
        String[] texts = {"a(1)", "a(X):b(X)", ":b(X)", "?a(X):b(X)"};
        for (String text : texts) {
            edge(text + ".", text, text.length());
            edge(text + ".", text + "..", text.length() + 1);
            edge(text + ".", text + ".a", text.length() + 1);
            edge(text + ".", text + ";", text.length());
            edge(text + ".", text + "!", text.length());
        }
        edge("a(1):b(1).", "a(1):b(1):b(1).", 9);
        Checks.dueError("", 0);
        Checks.dueError(".", 0);
        Checks.dueError("?a(1).", 5);
        Checks.dueError("??a(1):b(1).", 1);
        Checks.dueError("?:b(1).", 1);
        Checks.dueError("::b(1).", 1);
    }

    private static void bodies() {
        Checks.says("body: literals with commas between them, at most 4.");
        for (String head : new String[] {"a(1):", ":", "?a(1):"}) {
            for (String literal : new String[] {"b(1)", "b(1)^1", "!b(1)", "1*b(1)", "X<Y", "X~1+1", "N~n(b(1))"}) {
                String body = head + literal;
                edge(body + ".", head + ".", head.length());
                edge(body + "," + literal + ".", body + ",.", body.length() + 1);
                edge(body + "," + literal + ".", body + literal + ".", body.length());
                String four = body + "," + literal + "," + literal + "," + literal;
                edge(four + ".", four + "," + literal + ".", four.length());
                Checks.dueError(four, four.length());
                Checks.dueError(four + ",", four.length());
            }
        }
    }

    private static void atoms() {
        Checks.says("atom: a letter a to z, (, 1 to 3 terms with commas between them, ).");
        edge("a(1).", "a().", 2);
        edge("a(1,2).", "a(1,).", 4);
        edge("a(1,2,3).", "a(1,2,3,).", 7);
        edge("a(1,2,3).", "a(1,2,3,4).", 7);
        edge("a(1,2).", "a(,2).", 2);
        edge("a(1,2).", "a(1;2).", 3);
        edge("a(1).", "a(1.", 3);
        edge("a(1).", "a1).", 1);
        edge("a(1).", "a[1].", 1);
        edge("a(1).", "A(1).", 0);
        edge("z(1):a(1,1,1),z(1,1,1).", "z(1):a(1,1,1),z(1,1,1,1).", 21);
    }

    private static void terms() {
        Checks.says("term: a number of 1 or 2 digits; a variable, A to Z; a letter a to z; or a letter a to z, [, a term, ].");
        edge("a(5).", "a(/).", 2);
        edge("a(55).", "a(555).", 4);
        edge("a(00).", "a(000).", 4);
        edge("a(9).", "a(:).", 2);
        edge("a(A).", "a(@).", 2);
        edge("a(Z).", "a([).", 2);
        edge("a(A).", "a(AA).", 3);
        edge("a(A).", "a(A1).", 3);
        edge("a(1).", "a(1A).", 3);
        edge("a(a).", "a(aa).", 3);
        edge("a(a).", "a(a1).", 3);
        edge("a(s[1]).", "a(s[]).", 4);
        edge("a(s[55]).", "a(s[555]).", 6);
        edge("a(s[Z]).", "a(s[1,2]).", 5);
        edge("a(s[1]).", "a(s[1).", 5);
        edge("a(s[1]).", "a(s[1]]).", 6);
        edge("a(s[t[1]]).", "a(s[t[1]).", 8);
        edge("a(s[t[1]]).", "a(s(t[1])).", 3);
    }

    private static void literals() {
        Checks.says("literal: atom; atom ^ number; ! atom; number * atom; variable < variable, and likewise with = and #;");
        edge(":a(1)^0.", ":a(1)^.", 6);
        edge(":a(1)^99.", ":a(1)^100.", 8);
        edge(":a(1)^5.", ":a(1)^X.", 6);
        edge(":a(1)^5.", ":a(1)^5^5.", 7);
        edge(":!a(1).", ":!!a(1).", 2);
        edge(":!a(1).", ":!a(1)^1.", 6);
        edge(":!a(1).", ":!X<Y.", 2);
        edge(":0*a(1).", ":*a(1).", 1);
        edge(":99*a(1).", ":100*a(1).", 3);
        edge(":1*a(1).", ":X*a(1).", 2);
        edge(":1*a(1).", ":1*a(1)^1.", 7);
        edge(":1*a(1).", ":1*1*a(1).", 3);
        edge(":1*a(1).", ":1a(1).", 2);
        for (char sign : new char[] {'<', '=', '#'}) {
            edge(":A" + sign + "Z.", ":A" + sign + "1.", 3);
            edge(":A" + sign + "Z.", ":A" + sign + "z.", 3);
            edge(":A" + sign + "Z.", ":1" + sign + "Z.", 2);
            edge(":A" + sign + "Z.", ":a" + sign + "Z.", 2);
            edge(":A" + sign + "Z.", ":A" + sign + ".", 3);
            edge(":A" + sign + "Z.", ":A" + sign + sign + "Z.", 3);
        }
        Checks.dueError(":A>Z.", 2);
        Checks.dueError(":A!Z.", 2);
        Checks.dueError(":A.", 2);
        Checks.dueError(":A(1).", 2);
    }

    private static void calculations() {
        Checks.says("variable ~ part sign part, a part being a variable or a number of 1 or 2 digits, a sign + - or *;");
        for (char sign : new char[] {'+', '-', '*'}) {
            edge(":X~A" + sign + "Z.", ":X~a" + sign + "Z.", 3);
            edge(":X~A" + sign + "Z.", ":X~A" + sign + "z.", 5);
            edge(":X~0" + sign + "99.", ":X~100" + sign + "1.", 5);
            edge(":X~99" + sign + "0.", ":X~1" + sign + "100.", 7);
            edge(":X~1" + sign + "1.", ":X~" + sign + "1.", 3);
            edge(":X~1" + sign + "1.", ":X~1" + sign + ".", 5);
            edge(":X~1" + sign + "1.", ":X~1" + sign + "1" + sign + "1.", 6);
            edge(":X~1" + sign + "1.", ":1~1" + sign + "1.", 2);
            edge(":X~1" + sign + "1.", ":x~1" + sign + "1.", 2);
        }
        for (char sign : ",./)^~<".toCharArray()) {
            Checks.dueError(":X~1" + sign + "1.", 4);
        }
        Checks.dueError(":X~1.", 4);
        Checks.dueError(":X~Y.", 4);
        Checks.dueError(":X~.", 3);
    }

    private static void counts() {
        Checks.says("or variable ~ n ( atom ), or variable ~ s, m or x ( variable ; atom ).");
        edge(":X~n(a(Y)).", ":X~n(Y;a(Y)).", 5);
        edge(":X~n(a(Y)).", ":X~n(a(Y).", 9);
        edge(":X~n(a(Y)).", ":X~na(Y).", 4);
        edge(":X~n(a(Y)).", ":X~n(!a(Y)).", 5);
        edge(":X~n(a(Y)).", ":X~n(a(Y)^1).", 9);
        edge(":X~n(a(Y)).", ":x~n(a(Y)).", 2);
        for (char letter : "smx".toCharArray()) {
            String begin = ":X~" + letter;
            edge(begin + "(Y;a(Y)).", begin + "(a(Y)).", 5);
            edge(begin + "(Y;a(Y)).", begin + "(Y,a(Y)).", 6);
            edge(begin + "(Y;a(Y)).", begin + "(1;a(Y)).", 5);
            edge(begin + "(Y;a(Y)).", begin + "(Y;1*a(Y)).", 7);
            edge(begin + "(Y;a(Y)).", begin + "(Y;a(Y).", 11);
            edge(begin + "(Y;a(Y)).", begin + "Y;a(Y).", 4);
        }
        Checks.says("(A letter n, s, m or x behind ~ is one of these, as no part is a letter.)");
        for (char letter = 'a'; letter <= 'z'; letter++) {
            boolean one = "nsmx".indexOf(letter) >= 0;
            Checks.dueError(":X~" + letter, one ? 4 : 3);
            Checks.dueError(":X~" + letter + "+1.", one ? 4 : 3);
        }
    }

    private static void errors() {
        Checks.says("The error of the text is the place of its first char with which the chars up to it are not the "
                + "beginning of a text; its length, if there is none, but the text is not whole;");
        String text = "?a(X,s[12]):b(X)^9,!c(X),N~x(Y;d(Y,X)),X#N.";
        for (int length = 0; length < text.length(); length++) {
            String begin = text.substring(0, length);
            Checks.dueError(begin, length);
            Checks.dueError(begin + "$", length);
            Checks.dueError(begin + "$(", length);
        }
        Checks.dueError(text, WHOLE);
        Checks.dueError(text + "a", text.length());
        Checks.dueError("(1)..a(", 0);
        Checks.says("a term of a depth above 3 as it is written is an error at its [ that makes it so; "
                + "a fifth literal one at the comma ahead of it.");
        Checks.dueError("a(s[s[s[s", 9);
        Checks.dueError("a(s[s[s[s[", 9);
        Checks.dueError("a(1,s[s[s[s[1]]]],2).", 11);
        Checks.dueError("a(s[s[s[s]]],s[s[s[1]]],s[s[s[1]]]).", WHOLE);
        Checks.dueError(":a(1),a(1),a(1),a(1)", 20);
        Checks.dueError(":a(1),a(1),a(1),a(1),", 20);
        Checks.dueError(":a(1),a(1),a(1),a(1),a(1).", 20);
        Checks.dueError(":a(1),a(1),a(1),a(s[s[s[s[1]]]]),", 25);
    }

    private static final String[] TEXTS = {
        "a(1).", "z(99,A,a).", "a(s[t[u[X]]],b[1]).", "a(X):b(X).", "?q(X,Y):b(X,Y)^12,c(X).", ":X<Y,A=Z,X#X,!b(1).",
        ":X~1+22,Y~X*X,Z~11-Y.", ":12*a(X,s[X]).", ":N~n(n(X,Y)),S~s(X;s(X)).", ":M~m(X;m(s[s[s[X]]])),X~x(M;x(M)).",
        "a(1):b(1),c(1),d(1),e(1).", ":a(1)^1,a(1)^2,a(1)^3,a(1)^4.",
    };

    /** The beginnings of texts as one expression: what fails at the end of a text might still become one. */
    private static final Pattern GRAMMAR = grammar();

    private static Pattern grammar() {
        String number = "[0-9][0-9]?";
        String term = "(?:" + number + "|[A-Z]|[a-z])";
        for (int depth = 1; depth <= 3; depth++) {
            term = "(?:" + number + "|[A-Z]|[a-z]|[a-z]\\[" + term + "\\])";
        }
        String atom = "[a-z]\\(" + term + "(?:," + term + "){0,2}\\)";
        String part = "(?:[A-Z]|" + number + ")";
        String literal = "(?:" + atom + "|" + atom + "\\^" + number + "|!" + atom + "|" + number + "\\*" + atom
                + "|[A-Z][<=#][A-Z]|[A-Z]~" + part + "[-+*]" + part + "|[A-Z]~n\\(" + atom + "\\)|[A-Z]~[smx]\\([A-Z];"
                + atom + "\\))";
        String body = literal + "(?:," + literal + "){0,3}";
        return Pattern.compile("(?:" + atom + "|" + atom + ":" + body + "|:" + body + "|\\?" + atom + ":" + body + ")\\.");
    }

    private static int errorByGrammar(String text) {
        for (int end = 1; end <= text.length(); end++) {
            Matcher m = GRAMMAR.matcher(text.substring(0, end));
            if (!m.matches() && !m.hitEnd()) {
                return end - 1;
            }
        }
        return GRAMMAR.matcher(text).matches() ? WHOLE : text.length();
    }

    private static void everySignEverywhere() {
        for (String text : TEXTS) {
            Checks.due("by the grammar, " + text, errorByGrammar(text), WHOLE);
            for (int at = 0; at <= text.length(); at++) {
                for (char sign = 33; sign <= 126; sign++) {
                    String put = text.substring(0, at) + sign + text.substring(at);
                    Checks.dueError(put, errorByGrammar(put));
                    if (at < text.length()) {
                        String other = text.substring(0, at) + sign + text.substring(at + 1);
                        Checks.dueError(other, errorByGrammar(other));
                    }
                }
                String less = text.substring(0, at) + text.substring(Math.min(at + 1, text.length()));
                Checks.dueError(less, errorByGrammar(less));
            }
        }
    }
}
