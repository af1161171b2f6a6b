/** Promises 1 to 4: a new object, type, clearText, textError. */
public final class TextTest {
    public static void main(String[] args) {
        newObject();
        typing();
        clearing();
        wholeTexts();
        errorsInAtoms();
        errorsInTexts();
        errorsInLiterals();
        errorsWhileTyping();
        Checks.end();
    }

    private static void newObject() {
        Stratahold x = new Stratahold();
        Checks.due("clearText of a new one", x.clearText(), 0);
        Checks.due("textError of a new one", x.textError(), 0);
        Checks.due("facts of a new one", x.facts(), 0);
        Checks.due("factsAnew of a new one", x.factsAnew(), 0);
        Checks.due("delta(0, 0) of a new one", x.delta(0, 0), 0);
        Checks.due("speak of a new one", x.speak(3), 0);
        Checks.due("the first rule", Checks.add(x, "a(X):b(X)."), 0);
        Checks.due("the first fact", Checks.add(x, "a(1)."), 1);
        Checks.due("NONE", Stratahold.NONE, -1);
        Checks.due("TOLD", Stratahold.TOLD, -2);
        Checks.due("CHOSEN", Stratahold.CHOSEN, -3);
    }

    private static void typing() {
        Stratahold x = new Stratahold();
        for (int sign : new int[] {0, 10, 32, 127, 128, 255, 256 + 'a', 65535}) {
            Checks.dueThrow("type " + sign, IllegalArgumentException.class, () -> x.type((char) sign));
        }
        Checks.due("type !", x.type('!'), 1);
        Checks.due("type ~", x.type('~'), 2);
        for (int i = 3; i <= 60; i++) {
            Checks.due("type the " + i + "th", x.type((char) (30 + i)), i);
        }
        Checks.dueThrow("type the 61st", IllegalStateException.class, () -> x.type('a'));
        Checks.dueThrow("type a wrong 61st", IllegalArgumentException.class, () -> x.type(' '));
        Checks.due("clearText of 60", x.clearText(), 60);
        Checks.due("type after it", x.type('a'), 1);
    }

    private static void clearing() {
        Stratahold x = new Stratahold();
        Checks.write(x, "a(1).");
        Checks.due("clearText", x.clearText(), 5);
        Checks.due("clearText again", x.clearText(), 0);
        Checks.due("textError then", x.textError(), 0);
    }

    private static void wholeTexts() {
        String[] texts = {
            "a(1).", "z(99).", "a(00).", "a(b).", "a(X).", "a(1,2,3).", "a(X,b,s[X]).", "a(b[c[d[1]]]).",
            "a(b[c[d[e]]]).", "a(b[c[d[X]]],b[c[d[1]]]).", "a(1):b(1).", "a(X):b(X),c(X),d(X),e(X).", ":b(1).",
            "?a(X):b(X).", "a(1):b(1)^5.", "a(1):b(1)^55,c(1).", "a(1):!b(1).", "a(1):2*b(X).", "a(1):22*b(X).",
            ":X<Y.", ":X=Y.", ":X#Y.", ":X~1+2.", ":X~Y*12.", ":X~1-Y.", ":X~12+Y,b(1).", ":X~n(a(Y)).",
            ":X~s(Y;a(Y)).", ":X~m(Y;a(Y)).", ":X~x(Y;a(Y)).", ":X~x(Y;x(1,2,Y)).", "?n(s):n(s),!s(m),2*m(x).",
        };
        for (String text : texts) {
            Checks.dueError(text, Stratahold.NONE);
            Checks.dueError(text.substring(0, text.length() - 1), text.length() - 1);
            Checks.dueError(text + "a", text.length());
            Checks.dueError(text + ".", text.length());
        }
    }

    private static void errorsInAtoms() {
        Checks.dueError("", 0);
        Checks.dueError("a", 1);
        Checks.dueError("a(", 2);
        Checks.dueError("A(1).", 0);
        Checks.dueError("1(1).", 0);
        Checks.dueError("a1).", 1);
        Checks.dueError("a(1.", 3);
        Checks.dueError("a().", 2);
        Checks.dueError("a(,1).", 2);
        Checks.dueError("a(1,).", 4);
        Checks.dueError("a(1,2,3,4).", 7);
        Checks.dueError("a(1,2,3;", 7);
        Checks.dueError("a(123).", 4);
        Checks.dueError("a(1b).", 3);
        Checks.dueError("a(bb).", 3);
        Checks.dueError("a(XY).", 3);
        Checks.dueError("a(X1).", 3);
        Checks.dueError("a(B[1]).", 3);
        Checks.dueError("a(1[2]).", 3);
        Checks.dueError("a(b[1).", 5);
        Checks.dueError("a(b[]).", 4);
        Checks.dueError("a(b(1)).", 3);
        Checks.dueError("a(b[1,2]).", 5);
        Checks.dueError("a(b[c[d[e[1]]]]).", 9);
        Checks.dueError("a(1,b[c[d[e[X]]]]).", 11);
        Checks.dueError("a(b[c[d[e]]]]).", 12);
        Checks.dueError("a(!1).", 2);
    }

    private static void errorsInTexts() {
        Checks.dueError("a(1)", 4);
        Checks.dueError("a(1),", 4);
        Checks.dueError("a(1)^5.", 4);
        Checks.dueError("a(1):.", 5);
        Checks.dueError("a(1)::b(1).", 5);
        Checks.dueError("a(1):b(1):c(1).", 9);
        Checks.dueError(":.", 1);
        Checks.dueError(":", 1);
        Checks.dueError("?", 1);
        Checks.dueError("?a(1).", 5);
        Checks.dueError("?:b(1).", 1);
        Checks.dueError("??a(1):b(1).", 1);
        Checks.dueError("!a(1).", 0);
        Checks.dueError("2*a(1).", 0);
        Checks.dueError(".", 0);
        Checks.dueError("a(1):b(1),.", 10);
        Checks.dueError("a(1):b(1),c(1),d(1),e(1),", 24);
        Checks.dueError("a(1):b(1),c(1),d(1),e(1),f(1).", 24);
        Checks.dueError(":X<Y,X<Y,X<Y,X<Y,X<Y.", 16);
    }

    private static void errorsInLiterals() {
        Checks.dueError("a(1):b(1)^.", 10);
        Checks.dueError("a(1):b(1)^123.", 12);
        Checks.dueError("a(1):b(1)^X.", 10);
        Checks.dueError("a(1):b(1)^2^3.", 11);
        Checks.dueError("a(1):!b(1)^5.", 10);
        Checks.dueError("a(1):2*b(1)^5.", 11);
        Checks.dueError("a(1):!!b(1).", 6);
        Checks.dueError("a(1):!2*b(1).", 6);
        Checks.dueError("a(1):2*!b(1).", 7);
        Checks.dueError("a(1):2b(X).", 6);
        Checks.dueError("a(1):123*b(X).", 7);
        Checks.dueError("a(1):X*b(X).", 6);
        Checks.dueError(":X=1.", 3);
        Checks.dueError(":X=a.", 3);
        Checks.dueError(":1<X.", 2);
        Checks.dueError(":X>Y.", 2);
        Checks.dueError(":X<=Y.", 3);
        Checks.dueError(":X.", 2);
        Checks.dueError(":X(1).", 2);
        Checks.dueError(":X~", 3);
        Checks.dueError(":X~1.", 4);
        Checks.dueError(":X~1/2.", 4);
        Checks.dueError(":X~123+1.", 5);
        Checks.dueError(":X~1+123.", 7);
        Checks.dueError(":X~1+.", 5);
        Checks.dueError(":X~1+a.", 5);
        Checks.dueError(":X~1+2+3.", 6);
        Checks.dueError(":X~+1.", 3);
        Checks.dueError(":1~1+1.", 2);
        Checks.dueError(":X~k+1.", 3);
        Checks.dueError(":X~a(Y).", 3);
        Checks.dueError(":X~n+1.", 4);
        Checks.dueError(":X~n(Y;a(Y)).", 5);
        Checks.dueError(":X~n(a(Y).", 9);
        Checks.dueError(":X~n(!a(Y)).", 5);
        Checks.dueError(":X~s(a(Y)).", 5);
        Checks.dueError(":X~s(1;a(Y)).", 5);
        Checks.dueError(":X~s(Y,a(Y)).", 6);
        Checks.dueError(":X~m(Y;a(Y).", 11);
        Checks.dueError(":X~x(Y;2*a(Y)).", 7);
        Checks.dueError(":X~s(Y;a(Y)^2).", 11);
    }

    private static void errorsWhileTyping() {
        Stratahold x = new Stratahold();
        String text = "a(X):b(X),!c(X).";
        for (int i = 0; i < text.length(); i++) {
            Checks.due("textError after " + i + " signs", x.textError(), i);
            x.type(text.charAt(i));
        }
        Checks.due("textError of the whole text", x.textError(), Stratahold.NONE);
        x.type('?');
        x.type('!');
        Checks.due("textError of the first sign too much", x.textError(), text.length());
        Stratahold y = new Stratahold();
        Checks.write(y, "a(s[s[s[1]]],s[s[s[2]]],s[s[s[3]]]):b(X,Y,Z),c(XX),b(X,Y,Z).");
        Checks.due("textError of 60 signs", y.textError(), 48);
    }
}
