import java.util.ArrayList;
import java.util.Arrays;
import java.util.Collections;
import java.util.Comparator;
import java.util.HashMap;
import java.util.HashSet;
import java.util.LinkedHashMap;
import java.util.List;
import java.util.Map;
import java.util.NoSuchElementException;
import java.util.Set;
import java.util.TreeMap;
import java.util.function.Function;
import java.util.function.Predicate;
import java.util.regex.Matcher;
import java.util.regex.Pattern;

/**
 * The document once more, written for being plain and not for speed: terms as trees, bodies by
 * recursion, the model by naive rounds, ways of choosing by recursion. It shares nothing with the class.
 */
final class Oracle {
    private static final int CAP = 1000000;

    // ---- terms and facts

    interface Term {
    }

    record Num(int value) implements Term {
    }

    record Let(char letter) implements Term {
    }

    record Var(char name) implements Term {
    }

    record Made(char letter, Term inner) implements Term {
    }

    record Fact(char letter, List<Term> args) {
    }

    static long code(Term t) {
        if (t instanceof Num n) {
            return n.value();
        }
        if (t instanceof Let l) {
            return 100 + l.letter() - 'a';
        }
        Made m = (Made) t;
        return 200 * (code(m.inner()) + 1) + 100 + m.letter() - 'a';
    }

    static int depth(Term t) {
        return t instanceof Made m ? 1 + depth(m.inner()) : 0;
    }

    static int compareFacts(Fact a, Fact b) {
        if (a.letter() != b.letter()) {
            return a.letter() - b.letter();
        }
        if (a.args().size() != b.args().size()) {
            return a.args().size() - b.args().size();
        }
        for (int i = 0; i < a.args().size(); i++) {
            int c = Long.compare(code(a.args().get(i)), code(b.args().get(i)));
            if (c != 0) {
                return c;
            }
        }
        return 0;
    }

    static boolean match(Term pattern, Term value, Map<Character, Term> env) {
        if (pattern instanceof Var v) {
            Term known = env.get(v.name());
            if (known == null) {
                env.put(v.name(), value);
                return true;
            }
            return known.equals(value);
        }
        if (pattern instanceof Made m) {
            return value instanceof Made w && m.letter() == w.letter() && match(m.inner(), w.inner(), env);
        }
        return pattern.equals(value);
    }

    /** The values with which the pattern is the fact; null if there are none. */
    static Map<Character, Term> match(Fact pattern, Fact fact, Map<Character, Term> env) {
        if (pattern.letter() != fact.letter() || pattern.args().size() != fact.args().size()) {
            return null;
        }
        Map<Character, Term> more = new HashMap<>(env);
        for (int i = 0; i < pattern.args().size(); i++) {
            if (!match(pattern.args().get(i), fact.args().get(i), more)) {
                return null;
            }
        }
        return more;
    }

    static Term fill(Term t, Map<Character, Term> env) {
        if (t instanceof Var v) {
            return env.get(v.name());
        }
        return t instanceof Made m ? new Made(m.letter(), fill(m.inner(), env)) : t;
    }

    static Fact fill(Fact f, Map<Character, Term> env) {
        List<Term> args = new ArrayList<>();
        for (Term t : f.args()) {
            args.add(fill(t, env));
        }
        return new Fact(f.letter(), args);
    }

    static boolean tooDeep(Fact f) {
        return f.args().stream().anyMatch(t -> depth(t) > 3);
    }

    static void variables(Term t, Set<Character> into) {
        if (t instanceof Var v) {
            into.add(v.name());
        } else if (t instanceof Made m) {
            variables(m.inner(), into);
        }
    }

    static Set<Character> variables(Fact f) {
        Set<Character> all = new HashSet<>();
        if (f != null) {
            f.args().forEach(t -> variables(t, all));
        }
        return all;
    }

    // ---- texts

    /** op: a (atom), ^, !, g (number *), the comparisons, + - *, and n s m x. */
    record Literal(char op, Fact atom, int number, Term target, Term left, Term right) {
        Set<Character> outside() {
            Set<Character> all = new HashSet<>();
            for (Term t : Arrays.asList(target, left, right)) {
                if (t != null) {
                    variables(t, all);
                }
            }
            return all;
        }
    }

    /** kind: f, r, c (constraint), ? (choice). */
    record Rule(char kind, Fact head, List<Literal> body) {
    }

    private static final Pattern TEXT = grammar();

    private static Pattern grammar() {
        String number = "[0-9][0-9]?";
        String flat = "(?:" + number + "|[A-Z]|[a-z])";
        String one = "(?:" + flat + "|[a-z]\\[" + flat + "\\])";
        String two = "(?:" + flat + "|[a-z]\\[" + one + "\\])";
        String term = "(?:" + flat + "|[a-z]\\[" + two + "\\])";
        String atom = "(?:[a-z]\\(" + term + "(?:," + term + "){0,2}\\))";
        String part = "(?:[A-Z]|" + number + ")";
        String literal = "(?:" + atom + "|" + atom + "\\^" + number + "|!" + atom + "|" + number + "\\*" + atom
                + "|[A-Z][<=#][A-Z]|[A-Z]~" + part + "[-+*]" + part
                + "|[A-Z]~n\\(" + atom + "\\)|[A-Z]~[smx]\\([A-Z];" + atom + "\\))";
        String body = literal + "(?:," + literal + "){0,3}";
        return Pattern.compile("(?:" + atom + "|" + atom + ":" + body + "|:" + body
                + "|\\?" + atom + ":" + body + ")\\.");
    }

    static int error(String text) {
        for (int i = 1; i <= text.length(); i++) {
            Matcher m = TEXT.matcher(text.substring(0, i));
            if (!m.matches() && !m.hitEnd()) {
                return i - 1;
            }
        }
        return TEXT.matcher(text).matches() ? -1 : text.length();
    }

    /** Splits at a sign that is in no bracket. */
    private static List<String> split(String s, char at) {
        List<String> parts = new ArrayList<>();
        int open = 0;
        StringBuilder part = new StringBuilder();
        for (char c : s.toCharArray()) {
            open += c == '(' || c == '[' ? 1 : c == ')' || c == ']' ? -1 : 0;
            if (c == at && open == 0) {
                parts.add(part.toString());
                part.setLength(0);
            } else {
                part.append(c);
            }
        }
        parts.add(part.toString());
        return parts;
    }

    private static Term readTerm(String s) {
        char c = s.charAt(0);
        if (s.length() > 1 && s.charAt(1) == '[') {
            return new Made(c, readTerm(s.substring(2, s.length() - 1)));
        }
        return Character.isDigit(c) ? new Num(Integer.parseInt(s)) : Character.isUpperCase(c) ? new Var(c) : new Let(c);
    }

    private static Fact readAtom(String s) {
        List<Term> args = new ArrayList<>();
        for (String arg : split(s.substring(2, s.length() - 1), ',')) {
            args.add(readTerm(arg));
        }
        return new Fact(s.charAt(0), args);
    }

    private static Literal readLiteral(String s) {
        char c = s.charAt(0);
        if (c == '!') {
            return new Literal('!', readAtom(s.substring(1)), 0, null, null, null);
        }
        if (Character.isDigit(c)) {
            int star = s.indexOf('*');
            return new Literal('g', readAtom(s.substring(star + 1)), Integer.parseInt(s.substring(0, star)), null, null, null);
        }
        if (Character.isLowerCase(c)) {
            int roof = s.indexOf('^');
            return roof < 0 ? new Literal('a', readAtom(s), 0, null, null, null)
                    : new Literal('^', readAtom(s.substring(0, roof)), Integer.parseInt(s.substring(roof + 1)), null, null, null);
        }
        Term first = new Var(c);
        if (s.charAt(1) != '~') {
            return new Literal(s.charAt(1), null, 0, null, first, readTerm(s.substring(2)));
        }
        char kind = s.charAt(2);
        if (Character.isLowerCase(kind)) {
            String inner = s.substring(4, s.length() - 1);
            return kind == 'n' ? new Literal('n', readAtom(inner), 0, first, null, null)
                    : new Literal(kind, readAtom(inner.substring(2)), 0, first, new Var(inner.charAt(0)), null);
        }
        int sign = 3;
        while ("+-*".indexOf(s.charAt(sign)) < 0) {
            sign++;
        }
        return new Literal(s.charAt(sign), null, 0, first, readTerm(s.substring(2, sign)), readTerm(s.substring(sign + 1)));
    }

    static Rule read(String text) {
        String s = text.substring(0, text.length() - 1);
        List<String> halves = split(s, ':');
        String head = halves.get(0);
        char kind = halves.size() == 1 ? 'f' : head.isEmpty() ? 'c' : head.charAt(0) == '?' ? '?' : 'r';
        List<Literal> body = new ArrayList<>();
        if (halves.size() == 2) {
            split(halves.get(1), ',').forEach(l -> body.add(readLiteral(l)));
        }
        return new Rule(kind, kind == 'c' ? null : readAtom(kind == '?' ? head.substring(1) : head), body);
    }

    static Set<Character> own(Literal l, Set<Character> valued) {
        Set<Character> own = new HashSet<>();
        if ("!gnsmx".indexOf(l.op()) >= 0) {
            own.addAll(variables(l.atom()));
            own.removeAll(valued);
        }
        return own;
    }

    /** The variables that have values behind the first literals. */
    static Set<Character> valued(Rule r, int literals) {
        Set<Character> all = new HashSet<>();
        for (Literal l : r.body().subList(0, literals)) {
            if (l.op() == 'a' || l.op() == '^') {
                all.addAll(variables(l.atom()));
            }
            if (l.target() != null) {
                variables(l.target(), all);
            }
        }
        return all;
    }

    static boolean unsafe(Rule r) {
        int atoms = 0;
        for (int i = 0; i < r.body().size(); i++) {
            Literal l = r.body().get(i);
            Set<Character> valued = valued(r, i);
            if (l.op() == 'a' || l.op() == '^') {
                atoms++;
            }
            Set<Character> own = own(l, valued);
            if (l.op() == '!' && !own.isEmpty()) {
                return true;
            }
            Set<Character> elsewhere = new HashSet<>(variables(r.head()));
            for (int j = 0; j < r.body().size(); j++) {
                if (j != i) {
                    elsewhere.addAll(variables(r.body().get(j).atom()));
                    elsewhere.addAll(r.body().get(j).outside());
                }
            }
            if (l.target() != null) {
                variables(l.target(), elsewhere);
                if (valued.contains(((Var) l.target()).name())) {
                    return true;
                }
            }
            if (!Collections.disjoint(own, elsewhere)) {
                return true;
            }
            if ("smx".indexOf(l.op()) >= 0 && !variables(l.atom()).contains(((Var) l.left()).name())) {
                return true;
            }
            if ("<=#+-*".indexOf(l.op()) >= 0) {
                Set<Character> sides = new HashSet<>();
                variables(l.left(), sides);
                variables(l.right(), sides);
                if (!valued.containsAll(sides)) {
                    return true;
                }
            }
        }
        return atoms > 3 || r.head() != null && !valued(r, r.body().size()).containsAll(variables(r.head()));
    }

    // ---- the state

    record Life(int toldAt, int life) {
    }

    static final class State {
        final TreeMap<Fact, Life> told = new TreeMap<>(Oracle::compareFacts);
        final TreeMap<Integer, Rule> rules = new TreeMap<>();
        int next;

        State copy() {
            State s = new State();
            s.told.putAll(told);
            s.rules.putAll(rules);
            s.next = next;
            return s;
        }
    }

    private static String predicate(Fact f) {
        return f.letter() + "/" + f.args().size();
    }

    private static boolean strict(Rule r, Literal l) {
        return r.kind() == '?' || "!nsmx".indexOf(l.op()) >= 0;
    }

    /** The strata of all predicates that rest on others; null if there are none. */
    static Map<String, Integer> strata(Iterable<Rule> rules) {
        Map<String, Map<String, Boolean>> rests = new HashMap<>();
        for (Rule r : rules) {
            for (Literal l : r.body()) {
                if (r.head() != null && l.atom() != null) {
                    rests.computeIfAbsent(predicate(r.head()), k -> new HashMap<>())
                            .merge(predicate(l.atom()), strict(r, l), Boolean::logicalOr);
                }
            }
        }
        for (String p : rests.keySet()) {
            for (Map.Entry<String, Boolean> edge : rests.get(p).entrySet()) {
                if (edge.getValue() && reaches(rests, edge.getKey(), p, new HashSet<>())) {
                    return null;
                }
            }
        }
        Map<String, Integer> strata = new HashMap<>();
        for (int pass = 0; pass < 200; pass++) {
            for (String p : rests.keySet()) {
                for (Map.Entry<String, Boolean> edge : rests.get(p).entrySet()) {
                    strata.merge(p, strata.getOrDefault(edge.getKey(), 0) + (edge.getValue() ? 1 : 0), Math::max);
                }
            }
        }
        return strata;
    }

    private static boolean reaches(Map<String, Map<String, Boolean>> rests, String from, String to, Set<String> seen) {
        if (from.equals(to)) {
            return true;
        }
        if (!seen.add(from)) {
            return false;
        }
        for (String next : rests.getOrDefault(from, Map.of()).keySet()) {
            if (reaches(rests, next, to, seen)) {
                return true;
            }
        }
        return false;
    }

    // ---- bodies

    /** What a body is looked up in: facts with what is known of them, and the tick. */
    static final class World {
        final Map<Fact, int[]> facts = new LinkedHashMap<>();
        final Set<Fact> chosen = new HashSet<>();
        State state;
        int now;
        int deepest;
    }

    /** Calls found with the values of each way in which the body holds. */
    private static void solve(World w, Rule r, int i, Map<Character, Term> env, Predicate<Map<Character, Term>> found) {
        w.deepest = Math.max(w.deepest, i);
        if (i == r.body().size()) {
            found.test(env);
            return;
        }
        Literal l = r.body().get(i);
        if (l.op() == 'a' || l.op() == '^') {
            for (Fact f : new ArrayList<>(w.facts.keySet())) {
                Life life = w.state.told.get(f);
                if (l.op() == '^' && (life == null || w.now - life.toldAt() > l.number())) {
                    continue;
                }
                Map<Character, Term> more = match(l.atom(), f, env);
                if (more != null) {
                    solve(w, r, i + 1, more, found);
                }
            }
            return;
        }
        Map<Character, Term> more = compute(w, l, env);
        if (more != null) {
            solve(w, r, i + 1, more, found);
        }
    }

    private static Map<Character, Term> compute(World w, Literal l, Map<Character, Term> env) {
        List<Fact> like = new ArrayList<>();
        List<Long> values = new ArrayList<>();
        Map<Long, Term> terms = new HashMap<>();
        if (l.atom() != null) {
            for (Fact f : w.facts.keySet()) {
                Map<Character, Term> own = match(l.atom(), f, env);
                if (own != null) {
                    like.add(f);
                    if (l.left() != null) {
                        Term t = fill(l.left(), own);
                        values.add(code(t));
                        terms.put(code(t), t);
                    }
                }
            }
        }
        switch (l.op()) {
            case '!':
                return like.isEmpty() ? env : null;
            case 'g':
                return like.size() >= l.number() ? env : null;
            case 'n':
                return become(l, env, like.size());
            case 's':
                return become(l, env, values.stream().filter(v -> v < 100).mapToLong(v -> v).sum());
            case 'm':
            case 'x':
                if (values.isEmpty()) {
                    return null;
                }
                return become(l, env, terms.get(l.op() == 'm' ? Collections.min(values) : Collections.max(values)));
            default:
                break;
        }
        Term left = fill(l.left(), env);
        Term right = fill(l.right(), env);
        switch (l.op()) {
            case '<':
                return code(left) < code(right) ? env : null;
            case '=':
                return left.equals(right) ? env : null;
            case '#':
                return left.equals(right) ? null : env;
            default:
                break;
        }
        if (left instanceof Num a && right instanceof Num b) {
            int n = l.op() == '+' ? a.value() + b.value() : l.op() == '-' ? a.value() - b.value() : a.value() * b.value();
            return become(l, env, n);
        }
        return null;
    }

    private static Map<Character, Term> become(Literal l, Map<Character, Term> env, long n) {
        return n < 0 || n > 99 ? null : become(l, env, new Num((int) n));
    }

    private static Map<Character, Term> become(Literal l, Map<Character, Term> env, Term t) {
        char name = ((Var) l.target()).name();
        if (env.containsKey(name)) {
            return env.get(name).equals(t) ? env : null;
        }
        Map<Character, Term> more = new HashMap<>(env);
        more.put(name, t);
        return more;
    }

    static boolean holds(World w, Rule r) {
        boolean[] held = new boolean[1];
        solve(w, r, 0, Map.of(), env -> held[0] = true);
        return held[0];
    }

    // ---- the model

    private static final class Refused extends RuntimeException {
        private static final long serialVersionUID = 1;
        final int why;

        Refused(int why) {
            this.why = why;
        }
    }

    /** One search for a model: the number of ways it has tried, and what it found. */
    private static final class Search {
        final State state;
        final int now;
        final Map<String, Integer> strata;
        int ways;

        Search(State state, int now) {
            this.state = state;
            this.now = now;
            this.strata = strata(state.rules.values());
        }

        World run() {
            World w = new World();
            w.state = state;
            w.now = now;
            for (Fact f : state.told.keySet()) {
                put(w, f, 0);
            }
            World found = choose(w, 0, 0, null);
            if (found == null) {
                throw new Refused(state.rules.values().stream().anyMatch(r -> r.kind() == '?') ? 8 : 7);
            }
            return found;
        }

        private void put(World w, Fact f, int round) {
            if (!w.facts.containsKey(f)) {
                w.facts.put(f, new int[] {strata.getOrDefault(predicate(f), 0), round});
                if (w.facts.size() > 32) {
                    throw new Refused(6);
                }
            }
        }

        private World copy(World w) {
            World c = new World();
            c.facts.putAll(w.facts);
            c.chosen.addAll(w.chosen);
            c.state = w.state;
            c.now = w.now;
            return c;
        }

        /** groups: those of the stratum, found in the world at its beginning. */
        private World choose(World w, int stratum, int group, List<List<Fact>> groups) {
            if (stratum > 12) {
                ways++;
                for (Rule r : state.rules.values()) {
                    if (r.kind() == 'c' && holds(w, r)) {
                        if (ways >= 12) {
                            throw new Refused(state.rules.values().stream().anyMatch(q -> q.kind() == '?') ? 8 : 7);
                        }
                        return null;
                    }
                }
                return w;
            }
            if (groups == null) {
                return choose(w, stratum, 0, groups(w, stratum));
            }
            if (group == groups.size()) {
                World next = copy(w);
                derive(next, stratum);
                return choose(next, stratum + 1, 0, null);
            }
            for (Fact candidate : groups.get(group)) {
                World next = copy(w);
                put(next, candidate, 0);
                next.chosen.add(candidate);
                World found = choose(next, stratum, group + 1, groups);
                if (found != null) {
                    return found;
                }
            }
            return null;
        }

        private List<List<Fact>> groups(World w, int stratum) {
            List<List<Fact>> all = new ArrayList<>();
            for (Rule r : state.rules.values()) {
                if (r.kind() != '?' || strata.getOrDefault(predicate(r.head()), 0) != stratum) {
                    continue;
                }
                Set<Fact> candidates = new HashSet<>();
                solve(w, r, 0, Map.of(), env -> {
                    Fact f = fill(r.head(), env);
                    return !tooDeep(f) && candidates.add(f);
                });
                if (candidates.size() > 32) {
                    throw new Refused(6);
                }
                Map<List<Term>, List<Fact>> groups = new LinkedHashMap<>();
                candidates.stream().sorted(Oracle::compareFacts).forEach(f ->
                        groups.computeIfAbsent(f.args().subList(0, f.args().size() - 1), k -> new ArrayList<>()).add(f));
                all.addAll(groups.values());
            }
            return all;
        }

        private void derive(World w, int stratum) {
            for (int round = 1; ; round++) {
                Set<Fact> news = new HashSet<>();
                for (Rule r : state.rules.values()) {
                    if (r.kind() == 'r' && strata.getOrDefault(predicate(r.head()), 0) == stratum) {
                        solve(w, r, 0, Map.of(), env -> {
                            Fact f = fill(r.head(), env);
                            return !tooDeep(f) && !w.facts.containsKey(f) && news.add(f);
                        });
                    }
                }
                if (news.isEmpty()) {
                    return;
                }
                for (Fact f : news) {
                    put(w, f, round);
                }
            }
        }
    }

    // ---- the face

    private String text = "";
    private State state = new State();
    private State begun;
    private World model = emptyWorld(state);
    private List<Fact> order = new ArrayList<>();
    private final Map<Character, Integer> owners = new HashMap<>();
    private int speaker;
    private int now;

    private static World emptyWorld(State state) {
        World w = new World();
        w.state = state;
        return w;
    }

    int type(char sign) {
        if (sign < 33 || sign > 126) {
            throw new IllegalArgumentException();
        }
        if (text.length() == 60) {
            throw new IllegalStateException();
        }
        text += sign;
        return text.length();
    }

    int clearText() {
        int n = text.length();
        text = "";
        return n;
    }

    int textError() {
        return error(text);
    }

    private boolean mayWrite(Rule r) {
        return r.head() == null || owners.getOrDefault(r.head().letter(), speaker) == speaker;
    }

    /** Tries a change: the state with it, which may be refused by 6 to 8 if changes are not made together. */
    private World tried(State after, int tick) {
        return new Search(after, tick).run();
    }

    private int refusalBeforeModel(Rule[] into) {
        if (error(text) >= 0) {
            return 1;
        }
        Rule r = read(text);
        into[0] = r;
        if (unsafe(r)) {
            return 2;
        }
        List<Rule> rules = new ArrayList<>(state.rules.values());
        if (r.kind() != 'f') {
            rules.add(r);
        }
        if (strata(rules) == null) {
            return 3;
        }
        if (!mayWrite(r)) {
            return 4;
        }
        boolean full = r.kind() == 'f' ? !state.told.containsKey(r.head()) && state.told.size() == 24
                : state.rules.size() == 12;
        return full ? 5 : 0;
    }

    int refusal() {
        Rule[] r = new Rule[1];
        int why = refusalBeforeModel(r);
        if (why > 0 || begun != null) {
            return why;
        }
        try {
            tried(with(r[0], 0), now);
            return 0;
        } catch (Refused e) {
            return e.why;
        }
    }

    private State with(Rule r, int life) {
        State after = state.copy();
        if (r.kind() == 'f') {
            after.told.put(r.head(), new Life(now, life));
        } else {
            after.rules.put(after.next++, r);
        }
        return after;
    }

    private void change(State after, int tick) {
        if (begun == null) {
            try {
                setModel(tried(after, tick));
            } catch (Refused e) {
                throw new IllegalStateException();
            }
        }
        state = after;
        now = tick;
    }

    private void setModel(World w) {
        model = w;
        order = new ArrayList<>(w.facts.keySet());
        order.sort(Oracle::compareFacts);
    }

    int add(int life) {
        if (life < 0 || life > 100) {
            throw new IllegalArgumentException();
        }
        Rule[] r = new Rule[1];
        if (refusalBeforeModel(r) > 0) {
            throw new IllegalStateException();
        }
        change(with(r[0], life), now);
        return r[0].kind() == 'f' ? state.told.size() : state.next - 1;
    }

    int withdraw() {
        Rule r = error(text) < 0 ? read(text) : null;
        if (r == null || r.kind() != 'f' || !variables(r.head()).isEmpty() || !state.told.containsKey(r.head())) {
            throw new NoSuchElementException();
        }
        if (!mayWrite(r)) {
            throw new IllegalStateException();
        }
        State after = state.copy();
        after.told.remove(r.head());
        change(after, now);
        return state.told.size();
    }

    int drop(int rule) {
        if (!state.rules.containsKey(rule)) {
            throw new IndexOutOfBoundsException();
        }
        if (!mayWrite(state.rules.get(rule))) {
            throw new IllegalStateException();
        }
        State after = state.copy();
        after.rules.remove(rule);
        change(after, now);
        return state.rules.size();
    }

    int tick(int ticks) {
        if (ticks < 1 || ticks > 5) {
            throw new IllegalArgumentException();
        }
        if (begun != null || now + ticks > 1000) {
            throw new IllegalStateException();
        }
        State after = state.copy();
        World w = model;
        for (int t = now + 1; t <= now + ticks; t++) {
            int tick = t;
            after.told.values().removeIf(l -> l.life() > 0 && tick - l.toldAt() >= l.life());
            try {
                w = tried(after.copy(), t);
            } catch (Refused e) {
                throw new IllegalStateException();
            }
        }
        int gone = state.told.size() - after.told.size();
        state = after;
        setModel(w);
        now += ticks;
        return gone;
    }

    void begin() {
        if (begun != null) {
            throw new IllegalStateException();
        }
        begun = state.copy();
    }

    int commit() {
        if (begun == null) {
            throw new IllegalStateException();
        }
        State back = begun;
        begun = null;
        try {
            setModel(tried(state, now));
            return 0;
        } catch (Refused e) {
            state = back;
            return e.why;
        }
    }

    void rollBack() {
        if (begun == null) {
            throw new IllegalStateException();
        }
        state = begun;
        begun = null;
    }

    int speak(int module) {
        if (module < 0 || module > 3) {
            throw new IndexOutOfBoundsException();
        }
        int before = speaker;
        speaker = module;
        return before;
    }

    void own(char letter) {
        if (letter < 'a' || letter > 'z') {
            throw new IllegalArgumentException();
        }
        if (owners.getOrDefault(letter, speaker) != speaker) {
            throw new IllegalStateException();
        }
        owners.put(letter, speaker);
    }

    int facts() {
        return order.size();
    }

    private Fact at(int place) {
        if (place < 0 || place >= order.size()) {
            throw new IndexOutOfBoundsException();
        }
        return order.get(place);
    }

    int predicate(int place) {
        Fact f = at(place);
        return 4 * (f.letter() - 'a') + f.args().size();
    }

    int argument(int place, int argument) {
        Fact f = at(place);
        if (argument < 0 || argument > 2) {
            throw new IllegalArgumentException();
        }
        return argument < f.args().size() ? (int) code(f.args().get(argument)) : -1;
    }

    private Fact textFact(boolean ground) {
        if (error(text) >= 0) {
            throw new IllegalStateException();
        }
        Rule r = read(text);
        if (r.kind() != 'f' || ground && !variables(r.head()).isEmpty()) {
            throw new IllegalStateException();
        }
        return r.head();
    }

    int place() {
        return order.indexOf(textFact(true));
    }

    boolean stands() {
        return order.contains(textFact(true));
    }

    int matches() {
        Fact f = textFact(false);
        return (int) order.stream().filter(g -> match(f, g, Map.of()) != null).count();
    }

    int stratum(int place) {
        return model.facts.get(at(place))[0];
    }

    int round(int place) {
        return model.facts.get(at(place))[1];
    }

    int delta(int stratum, int round) {
        if (stratum < 0 || stratum > 12 || round < 0 || round > 100) {
            throw new IndexOutOfBoundsException();
        }
        return (int) model.facts.values().stream().filter(v -> v[0] == stratum && v[1] == round).count();
    }

    /** The model's own state stands in it, so that what is asked between begin() and commit() is of that. */
    private <T> List<T> reasonsBy(Rule r, Fact f, Function<Map<Character, Term>, T> made) {
        List<T> all = new ArrayList<>();
        Set<Map<Character, Term>> seen = new HashSet<>();
        if (r.kind() == 'r') {
            solve(model, r, 0, Map.of(), env -> {
                if (fill(r.head(), env).equals(f) && seen.add(env)) {
                    all.add(made.apply(env));
                }
                return true;
            });
        }
        return all;
    }

    int reasons(int place) {
        Fact f = at(place);
        int n = (model.state.told.containsKey(f) ? 1 : 0) + (model.chosen.contains(f) ? 1 : 0);
        for (Rule r : model.state.rules.values()) {
            n += reasonsBy(r, f, env -> env).size();
        }
        return n;
    }

    private static long capped(long n) {
        return Math.min(n, CAP);
    }

    /** The proof of an instance by the proofs that are known; Long.MAX_VALUE if they are not all. */
    private long proof(Rule r, Map<Character, Term> env, Map<Fact, Long> known) {
        long sum = 1;
        for (int i = 0; i < r.body().size(); i++) {
            Literal l = r.body().get(i);
            if (l.op() == '^') {
                sum++;
            } else if (l.op() == 'a') {
                Long n = known.get(fill(l.atom(), env));
                if (n == null) {
                    return Long.MAX_VALUE;
                }
                sum += n;
            } else if (l.op() == 'g') {
                List<Long> all = new ArrayList<>();
                for (Fact f : order) {
                    if (match(l.atom(), f, env) != null && known.containsKey(f)) {
                        all.add(known.get(f));
                    }
                }
                if (all.size() < l.number()) {
                    return Long.MAX_VALUE;
                }
                all.sort(Comparator.naturalOrder());
                sum += all.subList(0, l.number()).stream().mapToLong(v -> v).sum();
            }
        }
        return capped(sum);
    }

    private Map<Fact, Long> proofs() {
        Map<Fact, List<Object[]>> instances = new HashMap<>();
        Map<Fact, Long> known = new HashMap<>();
        for (Fact f : order) {
            if (model.state.told.containsKey(f) || model.chosen.contains(f)) {
                known.put(f, 1L);
            } else {
                List<Object[]> all = new ArrayList<>();
                for (Rule r : model.state.rules.values()) {
                    all.addAll(reasonsBy(r, f, env -> new Object[] {r, env}));
                }
                instances.put(f, all);
            }
        }
        for (boolean changed = true; changed; ) {
            changed = false;
            for (Map.Entry<Fact, List<Object[]>> e : instances.entrySet()) {
                for (Object[] instance : e.getValue()) {
                    @SuppressWarnings("unchecked")
                    long n = proof((Rule) instance[0], (Map<Character, Term>) instance[1], known);
                    if (n < known.getOrDefault(e.getKey(), Long.MAX_VALUE)) {
                        known.put(e.getKey(), n);
                        changed = true;
                    }
                }
            }
        }
        return known;
    }

    int least(int place) {
        return proofs().get(at(place)).intValue();
    }

    int why(int place) {
        Fact f = at(place);
        if (model.state.told.containsKey(f)) {
            return -2;
        }
        if (model.chosen.contains(f)) {
            return -3;
        }
        Map<Fact, Long> known = proofs();
        for (Map.Entry<Integer, Rule> e : model.state.rules.entrySet()) {
            for (long n : reasonsBy(e.getValue(), f, env -> proof(e.getValue(), env, known))) {
                if (n == known.get(f)) {
                    return e.getKey();
                }
            }
        }
        return -99;
    }

    int whyNot() {
        Fact f = textFact(true);
        if (order.contains(f)) {
            throw new NoSuchElementException();
        }
        int best = -1;
        int rule = -1;
        for (Map.Entry<Integer, Rule> e : model.state.rules.entrySet()) {
            Map<Character, Term> env = e.getValue().kind() == 'r' ? match(e.getValue().head(), f, Map.of()) : null;
            if (env != null) {
                model.deepest = 0;
                solve(model, e.getValue(), 0, env, found -> true);
                if (model.deepest > best) {
                    best = model.deepest;
                    rule = e.getKey();
                }
            }
        }
        return best < 0 ? -1 : 10 * rule + best;
    }
}
