/** Promises 1 to 4: a new object, type, clearText, textError. */
public final class TextTest {
    public static void main(String[] args) {
        newObject();
        typing();
        clearing();
        Checks.end();
    }

    private static void newObject() {
        Stratahold x = new Stratahold();
        Checks.due("clearText of a new one", x.clearText(), 0);
        Checks.due("textError of a new one", x.textError(), 0);
        Checks.due("facts of a new one", x.facts(), 0);
        Checks.due("factsAnew of a new one", x.factsAnew(), 0);
        Checks.due("delta(0, 0) of a new one", x.delta(0, 0), 0);
        Checks.due("speak of a new one", x.speak(3), 0);
        Checks.due("the first rule", Checks.add(x, "a(X):b(X)."), 0);
        Checks.due("the first fact", Checks.add(x, "a(1)."), 1);
        Checks.due("NONE", Stratahold.NONE, -1);
        Checks.due("TOLD", Stratahold.TOLD, -2);
        Checks.due("CHOSEN", Stratahold.CHOSEN, -3);
    }

    private static void typing() {
        Stratahold x = new Stratahold();
        for (int sign : new int[] {0, 10, 32, 127, 128, 255, 256 + 'a', 65535}) {
            Checks.dueThrow("type " + sign, IllegalArgumentException.class, () -> x.type((char) sign));
        }
        Checks.due("type !", x.type('!'), 1);
        Checks.due("type ~", x.type('~'), 2);
        for (int i = 3; i <= 60; i++) {
            Checks.due("type the " + i + "th", x.type((char) (30 + i)), i);
        }
        Checks.dueThrow("type the 61st", IllegalStateException.class, () -> x.type('a'));
        Checks.dueThrow("type a wrong 61st", IllegalArgumentException.class, () -> x.type(' '));
        Checks.due("clearText of 60", x.clearText(), 60);
        Checks.due("type after it", x.type('a'), 1);
    }

    private static void clearing() {
        Stratahold x = new Stratahold();
        Checks.write(x, "a(1).");
        Checks.due("clearText", x.clearText(), 5);
        Checks.due("clearText again", x.clearText(), 0);
        Checks.due("textError then", x.textError(), 0);
    }
}
