/** Makes texts for tests, the same ones for the same seed. */
final class Texts {
    private long seed;
    final String letters;
    private final int[] arities = new int[26];
    private final String values;
    /** How many in a hundred terms are made ones. */
    private final int made;
    private final boolean classic;

    Texts(long seed) {
        this.seed = seed * 2862933555777941757L + 3037000493L;
        String all = chance(30) ? "tegachbu" : "abcdefgh";
        letters = all.substring(0, 2 + below(6));
        for (int i = 0; i < 26; i++) {
            arities[i] = 1 + (chance(40) ? 1 : 0) + (chance(10) ? 1 : 0);
        }
        values = chance(30) ? "01" : chance(50) ? "012b" : "01234567";
        classic = chance(30);
        made = chance(30) ? 30 : chance(50) ? 5 : 0;
    }

    int below(int n) {
        seed = seed * 6364136223846793005L + 1442695040888963407L;
        return (int) ((seed >>> 33) % n);
    }

    boolean chance(int percent) {
        return below(100) < percent;
    }

    char letter() {
        return letters.charAt(below(letters.length()));
    }

    String value() {
        if (chance(made)) {
            return (chance(70) ? "s" : "t") + "[" + value() + "]";
        }
        if (chance(3)) {
            return Integer.toString(below(100));
        }
        return Character.toString(values.charAt(below(values.length())));
    }

    private String term(String variables, int variable) {
        if (!variables.isEmpty() && chance(variable)) {
            String v = Character.toString(variables.charAt(below(variables.length())));
            return chance(made) ? "s[" + v + "]" : v;
        }
        return value();
    }

    String atom(String variables, int variable) {
        char letter = letter();
        int arity = chance(2) ? 1 + below(3) : arities[letter - 'a'];
        StringBuilder s = new StringBuilder().append(letter).append('(');
        for (int i = 0; i < arity; i++) {
            s.append(i > 0 ? "," : "").append(term(variables, variable));
        }
        return s.append(')').toString();
    }

    String fact() {
        return atom("", 0) + ".";
    }

    private static String with(String bound, String atom) {
        StringBuilder all = new StringBuilder(bound);
        for (char c : atom.toCharArray()) {
            if (c >= 'A' && c <= 'Z' && all.indexOf(Character.toString(c)) < 0) {
                all.append(c);
            }
        }
        return all.toString();
    }

    private String part(String bound) {
        return bound.isEmpty() || chance(30) ? Integer.toString(below(chance(80) ? 5 : 100)) : one(bound);
    }

    private String one(String variables) {
        return Character.toString(variables.charAt(below(variables.length())));
    }

    /** A body behind a colon; what is bound by then stands behind a blank. */
    private String body() {
        StringBuilder s = new StringBuilder();
        String bound = "";
        int literals = 1 + below(3) + (chance(15) ? 1 : 0);
        for (int i = 0; i < literals; i++) {
            s.append(i > 0 ? "," : "");
            String literal;
            int kind = below(100);
            if (kind < 50 || i == 0 && kind < 80) {
                literal = atom("AYZ", 85) + (chance(12) ? "^" + below(chance(80) ? 4 : 100) : "");
                bound = with(bound, literal);
            } else if (kind < 60) {
                literal = "!" + atom(bound, 80);
            } else if (kind < 70) {
                literal = below(4) + "*" + atom(bound + "U", 80);
            } else if (kind < 80) {
                literal = chance(97) && !bound.isEmpty() ? one(bound) + "<=#".charAt(below(3)) + one(bound) : "A<Y";
            } else if (kind < 90) {
                literal = "V~" + part(bound) + "+-*".charAt(below(3)) + part(bound);
                bound = with(bound, "V");
            } else if (kind < 94) {
                literal = "N~n(" + atom(bound + "WW", 80) + ")";
                bound = with(bound, "N");
            } else {
                literal = "M~" + "smx".charAt(below(3)) + "(W;" + atom(bound + "WW", 90) + ")";
                bound = with(bound, "M");
            }
            s.append(literal);
        }
        return s + " " + bound;
    }

    String rule(String begin) {
        String[] body = (body() + " ").split(" ", -1);
        String bound = chance(3) ? body[1] + "Q" : body[1];
        return begin + atom(bound, 80) + ":" + body[0] + ".";
    }

    private static final String[] KNOWN = {
        "t(X,Y):e(X,Y).", "t(X,Z):e(X,Y),t(Y,Z).", "t(X,Z):t(X,Y),t(Y,Z).", "u(X):a(X),!b(X).", ":u(2).",
        "?h(X,Y):e(X,Y).", ":h(X,Y),h(Z,Y),X<Z.", "g(s[X]):g(X).", "g(X):g(s[X]).", "r(X):a(X)^1.", "n(C):C~n(a(X)).",
        "s(V):V~s(X;a(X)).", "m(V):V~m(X;a(X)).", "x(V):V~x(X;a(X)).", "w(X):a(X),2*g(Y).", "a(X):e(Y,X),2*a(Z).",
        "a(Y):a(X),Y~X+1,Y<Z.", "a(Y):a(X),e(X,Z),Y~X*2.", "?c(X):a(X).", ":c(X),!e(X,X).", ":e(X,Y),h(X,Z),h(Y,Z).",
        "b(X):c(X).", "?b(X):c(Y),e(Y,X).", "b(Y):a(X),Y~X-1.", "?h(X,Y):a(X),b(Y).", ":3*t(X,Y).", ":c(1).", ":h(1,2).",
        "t(X,s[Y]):t(X,Y),a(X).", "b(X):e(X,Y)^2,a(Y)^0.", "k(X,N):a(X),N~n(e(X,Y)).", "e(1,2).", "e(2,3).", "e(3,1).",
        "a(1).", "a(2).", "g(1).", "b(2).", "a(b).", "e(1,3).", "e(2,1).", "a(3).",
    };

    String known() {
        return KNOWN[below(KNOWN.length)];
    }

    String constraint() {
        return ":" + body().split(" ")[0] + ".";
    }

    /** A text in which signs are missing, doubled, or others. */
    String damaged(String text) {
        StringBuilder s = new StringBuilder(text);
        for (int i = 0; i <= below(3) && s.length() > 0; i++) {
            int at = below(s.length());
            if (chance(40)) {
                s.deleteCharAt(at);
            } else if (chance(50)) {
                s.insert(at, "(),.:?!^*~<=#[];+-0189abnsmxXYZ{".charAt(below(32)));
            } else {
                s.setCharAt(at, "(),.:?!^*~<=#[];+-0189abnsmxXYZ{".charAt(below(32)));
            }
        }
        return s.toString();
    }

    String text() {
        if (classic && chance(80)) {
            return known();
        }
        int kind = below(100);
        String s = kind < 45 ? fact() : kind < 72 ? rule("") : kind < 82 ? constraint() : kind < 95 ? rule("?")
                : atom("AY", 50) + ".";
        return chance(6) ? damaged(s) : s;
    }

    String question() {
        return chance(85) ? atom("AY", 50) + "." : text();
    }
}
