import java.util.Arrays;
import java.util.NoSuchElementException;

/**
 * A deductive database that is told facts and rules char by char. The face is at the top; behind it
 * stand the text and what it says (Text, Rule, Terms), what is told (Table, State), and those who
 * work on it: Strata, Walk (one body), Maker (the model), Asker (goals) and Reasoner (proofs).
 *
 * <p>All rows of numbers are made in constructors and used again, as all calls of a run share one
 * bounded room of objects; only the reading of a text makes a new Rule.
 */
public final class Stratahold {
    public static final int NONE = -1;
    public static final int TOLD = -2, CHOSEN = -3;

    private static final int MODULES = 4;
    private static final int LONGEST_LIFE = 100;
    private static final int MOST_TICKS_AT_ONCE = 5;
    private static final int LAST_TICK = 1000;
    private static final int TOP_STRATUM = 12;
    private static final int TOP_ROUND = 100;
    private static final int MOST_RULES = 12;
    private static final int MOST_TOLD = 24;
    private static final int MOST_FACTS = 32;
    private static final int MOST_CANDIDATES = 32;
    private static final int MOST_WAYS = 12;
    private static final int PREDICATES = 104;
    private static final int LETTERS = 26;
    private static final int VARIABLES = 26;

    private static final int IN_ERROR = 1;
    private static final int UNSAFE = 2;
    private static final int WITHOUT_STRATA = 3;
    private static final int OWNED = 4;
    private static final int TOO_MANY_TOLD = 5;
    private static final int TOO_BIG = 6;
    private static final int BROKEN = 7;
    private static final int NO_WAY = 8;

    /** Far above what any run needs: the end of loops whose own end lies in what they walk over. */
    private static final int MANY = 1000000;

    private final Text text = new Text();
    private final Strata strata = new Strata();
    private final Maker maker = new Maker();
    private final Asker asker = new Asker();
    private final Reasoner reasoner = new Reasoner();
    private final int[] owners = new int[LETTERS];
    private final State kept = new State();
    private State current = new State();
    private State trial = new State();
    private Table model = new Table(MOST_FACTS);
    private Table spare = new Table(MOST_FACTS);
    private int speaker;
    private int now;
    private boolean together;

    public Stratahold() {
        Arrays.fill(owners, NONE);
    }

    // ---- the text

    public int type(char sign) throws IllegalArgumentException, IllegalStateException {
        if (sign < 33 || sign > 126) {
            throw new IllegalArgumentException("a sign is a char from 33 to 126");
        }
        if (!text.put(sign)) {
            throw new IllegalStateException("the text has 60 chars");
        }
        return text.length;
    }

    public int clearText() {
        int length = text.length;
        text.empty();
        return length;
    }

    public int textError() {
        return text.read().error;
    }

    // ---- changes

    public int refusal() {
        return refused(text.read(), 0);
    }

    public int add(int life) throws IllegalArgumentException, IllegalStateException {
        if (life < 0 || life > LONGEST_LIFE) {
            throw new IllegalArgumentException("a life is 0 to 100");
        }
        Rule rule = text.read();
        if (refused(rule, life) > 0) {
            throw new IllegalStateException("the change is refused");
        }
        accept();
        return rule.kind == Rule.FACT ? current.told.count : current.nextNumber - 1;
    }

    public int withdraw() throws NoSuchElementException, IllegalStateException {
        Rule rule = text.read();
        int place = rule.isFact() ? current.told.find(rule.atoms[0]) : NONE;
        if (place == NONE) {
            throw new NoSuchElementException("the text is no fact that is told");
        }
        trial.copyFrom(current);
        trial.told.remove(place);
        if (!mayWrite(rule) || tried() > 0) {
            throw new IllegalStateException("the change is refused");
        }
        accept();
        return current.told.count;
    }

    public int drop(int rule) throws IndexOutOfBoundsException, IllegalStateException {
        int place = current.placeOf(rule);
        if (place == NONE) {
            throw new IndexOutOfBoundsException("there is no such rule");
        }
        trial.copyFrom(current);
        trial.remove(place);
        if (!mayWrite(current.rules[place]) || tried() > 0) {
            throw new IllegalStateException("the change is refused");
        }
        accept();
        return current.count;
    }

    public int tick(int ticks) throws IllegalArgumentException, IllegalStateException {
        if (ticks < 1 || ticks > MOST_TICKS_AT_ONCE) {
            throw new IllegalArgumentException("ticks are 1 to 5");
        }
        if (together || now + ticks > LAST_TICK) {
            throw new IllegalStateException("ticks cannot go by");
        }
        trial.copyFrom(current);
        int gone = 0;
        for (int tick = now + 1; tick <= now + ticks; tick++) {
            gone += trial.expire(tick);
            if (maker.build(trial, tick, spare, false) > 0) {
                throw new IllegalStateException("the change at a tick is refused");
            }
        }
        accept();
        now += ticks;
        return gone;
    }

    public void begin() throws IllegalStateException {
        if (together) {
            throw new IllegalStateException("it is begun");
        }
        kept.copyFrom(current);
        together = true;
    }

    public int commit() throws IllegalStateException {
        if (!together) {
            throw new IllegalStateException("it is not begun");
        }
        together = false;
        int refusal = maker.build(current, now, spare, false);
        if (refusal > 0) {
            current.copyFrom(kept);
        } else {
            exchangeModels();
        }
        return refusal;
    }

    public void rollBack() throws IllegalStateException {
        if (!together) {
            throw new IllegalStateException("it is not begun");
        }
        together = false;
        current.copyFrom(kept);
    }

    public int speak(int module) throws IndexOutOfBoundsException {
        if (module < 0 || module >= MODULES) {
            throw new IndexOutOfBoundsException("there is no such module");
        }
        int before = speaker;
        speaker = module;
        return before;
    }

    public void own(char letter) throws IllegalArgumentException, IllegalStateException {
        if (!Text.isLetter(letter)) {
            throw new IllegalArgumentException("a letter is a to z");
        }
        int owner = owners[letter - 'a'];
        if (owner != NONE && owner != speaker) {
            throw new IllegalStateException("another module owns it");
        }
        owners[letter - 'a'] = speaker;
    }

    // ---- the model

    public int facts() {
        return model.count;
    }

    public int factsAnew() {
        makeAnew();
        return spare.count;
    }

    public int predicate(int place) throws IndexOutOfBoundsException {
        if (!isPlace(place)) {
            throw new IndexOutOfBoundsException("there is no such place");
        }
        return model.rows[place][Table.PREDICATE];
    }

    public int argument(int place, int argument) throws IndexOutOfBoundsException, IllegalArgumentException {
        if (!isPlace(place)) {
            throw new IndexOutOfBoundsException("there is no such place");
        }
        if (argument < 0 || argument > 2) {
            throw new IllegalArgumentException("an argument is 0 to 2");
        }
        int[] row = model.rows[place];
        return argument < Terms.arity(row) ? row[argument + 1] : NONE;
    }

    public int place() throws IllegalStateException {
        Rule rule = text.read();
        if (!rule.isGroundFact()) {
            throw new IllegalStateException("the text is no fact without variables");
        }
        return model.find(rule.atoms[0]);
    }

    public boolean standsAnew() throws IllegalStateException {
        Rule rule = text.read();
        if (!rule.isGroundFact()) {
            throw new IllegalStateException("the text is no fact without variables");
        }
        makeAnew();
        return spare.find(rule.atoms[0]) != NONE;
    }

    public int matches() throws IllegalStateException {
        Rule rule = text.read();
        if (!rule.isFact()) {
            throw new IllegalStateException("the text is no fact");
        }
        return asker.countLike(model, rule);
    }

    public int matchesByGoals() throws IllegalStateException {
        Rule rule = text.read();
        if (!rule.isFact()) {
            throw new IllegalStateException("the text is no fact");
        }
        return asker.countByGoals(base(), model, now, rule);
    }

    public int stratum(int place) throws IndexOutOfBoundsException {
        if (!isPlace(place)) {
            throw new IndexOutOfBoundsException("there is no such place");
        }
        return model.rows[place][Table.STRATUM];
    }

    public int round(int place) throws IndexOutOfBoundsException {
        if (!isPlace(place)) {
            throw new IndexOutOfBoundsException("there is no such place");
        }
        return model.rows[place][Table.ROUND];
    }

    public int delta(int stratum, int round) throws IndexOutOfBoundsException {
        if (stratum < 0 || stratum > TOP_STRATUM || round < 0 || round > TOP_ROUND) {
            throw new IndexOutOfBoundsException("there is no such stratum or round");
        }
        int came = 0;
        for (int place = 0; place < model.count; place++) {
            int[] row = model.rows[place];
            if (row[Table.STRATUM] == stratum && row[Table.ROUND] == round) {
                came++;
            }
        }
        return came;
    }

    // ---- reasons

    public int reasons(int place) throws IndexOutOfBoundsException {
        if (!isPlace(place)) {
            throw new IndexOutOfBoundsException("there is no such place");
        }
        return reasoner.countReasons(base(), model, now, place);
    }

    public int least(int place) throws IndexOutOfBoundsException {
        if (!isPlace(place)) {
            throw new IndexOutOfBoundsException("there is no such place");
        }
        return reasoner.leastProof(base(), model, now, place);
    }

    public int why(int place) throws IndexOutOfBoundsException {
        if (!isPlace(place)) {
            throw new IndexOutOfBoundsException("there is no such place");
        }
        return reasoner.firstCause(base(), model, now, place);
    }

    public int whyNot() throws IllegalStateException, NoSuchElementException {
        Rule rule = text.read();
        if (!rule.isGroundFact()) {
            throw new IllegalStateException("the text is no fact without variables");
        }
        if (model.find(rule.atoms[0]) != NONE) {
            throw new NoSuchElementException("it is in the model");
        }
        return reasoner.nearestRule(base(), model, now, rule.atoms[0]);
    }

    // ---- behind the face

    private boolean isPlace(int place) {
        return place >= 0 && place < model.count;
    }

    /** While changes are made together, what is asked about the model is asked about that of begin(). */
    private State base() {
        return together ? kept : current;
    }

    private void makeAnew() {
        maker.build(base(), now, spare, true);
    }

    private boolean mayWrite(Rule rule) {
        if (rule.kind == Rule.CONSTRAINT) {
            return true;
        }
        int owner = owners[Terms.letter(rule.atoms[0])];
        return owner == NONE || owner == speaker;
    }

    /** Leaves what would come of it in the trial state (and the spare table), for accept(). */
    private int refused(Rule rule, int life) {
        if (rule.error != NONE) {
            return IN_ERROR;
        }
        if (rule.isUnsafe()) {
            return UNSAFE;
        }
        if (!strata.fill(current, rule)) {
            return WITHOUT_STRATA;
        }
        if (!mayWrite(rule)) {
            return OWNED;
        }
        if (!current.hasRoomFor(rule)) {
            return TOO_MANY_TOLD;
        }
        trial.copyFrom(current);
        if (rule.kind == Rule.FACT) {
            trial.tell(rule.atoms[0], now, life);
        } else {
            trial.append(rule);
        }
        return together ? 0 : maker.build(trial, now, spare, false);
    }

    private int tried() {
        return together ? 0 : maker.build(trial, now, spare, false);
    }

    private void accept() {
        State old = current;
        current = trial;
        trial = old;
        if (!together) {
            exchangeModels();
        }
    }

    private void exchangeModels() {
        Table old = model;
        model = spare;
        spare = old;
        reasoner.forget();
    }

    /**
     * Terms and facts as numbers. A term from 0 on is the code of a value; one below 0 is a variable
     * with the letters around it, which are a chain: digits to the base 27, the outermost the lowest.
     */
    private static final class Terms {
        static final int UNBOUND = -1;
        static final int TOO_DEEP = -2;
        static final int FIRST_LETTER = 100;
        static final int BASE = 200;
        static final int CHAIN_BASE = 27;
        static final int TOP_OF_CHAIN = CHAIN_BASE * CHAIN_BASE;
        /** The greatest code of a depth of 2: all that are above it have the depth 3 already. */
        static final int LAST_TO_WRAP = 5065325;

        static int letter(int[] atom) {
            return atom[0] >> 2;
        }

        static int arity(int[] atom) {
            return atom[0] & 3;
        }

        static int open(int variable, int chain) {
            return -1 - variable - VARIABLES * chain;
        }

        static int variableOf(int term) {
            return (-1 - term) % VARIABLES;
        }

        static int chainOf(int term) {
            return (-1 - term) / VARIABLES;
        }

        /** The code of a value with a chain around it, the innermost letter first. */
        static int wrapped(int value, int chain) {
            int code = value;
            for (int unit = TOP_OF_CHAIN; unit > 0; unit /= CHAIN_BASE) {
                int digit = chain / unit % CHAIN_BASE;
                if (digit > 0) {
                    if (code > LAST_TO_WRAP) {
                        return TOO_DEEP;
                    }
                    code = BASE * (code + 1) + FIRST_LETTER + digit - 1;
                }
            }
            return code;
        }

        /** The bit of the one variable that a side, a part or a target is; none of a number. */
        static int bit(int part) {
            return part < 0 ? 1 << variableOf(part) : 0;
        }

        static int variablesIn(int[] atom) {
            int bits = 0;
            for (int k = 1; k <= arity(atom); k++) {
                bits |= bit(atom[k]);
            }
            return bits;
        }
    }

    /** What a text says. It is not changed any more once it is read, so that states may share it. */
    private static final class Rule {
        static final int FACT = 0;
        static final int RULE = 1;
        static final int CONSTRAINT = 2;
        static final int CHOICE = 3;

        static final int MOST_LITERALS = 4;
        static final int MOST_ATOMS = 3;

        static final int ATOM = 0;
        static final int RECENT = 1;
        static final int AT_LEAST = 2;
        static final int NOT = 3;
        static final int COUNT = 4;
        static final int SUM = 5;
        static final int LEAST = 6;
        static final int GREATEST = 7;
        static final int LESS = 8;
        static final int SAME = 9;
        static final int OTHER = 10;
        static final int PLUS = 11;
        static final int MINUS = 12;
        static final int TIMES = 13;

        /** The columns of a literal; a variable in one stands as a term without a chain. */
        static final int OP = 0;
        static final int NUMBER = 1;
        static final int TARGET = 2;
        static final int LEFT = 3;
        static final int RIGHT = 4;

        /** The head, and behind it the atom of each literal: its predicate and three terms. */
        final int[][] atoms = new int[MOST_LITERALS + 1][4];
        final int[][] literals = new int[MOST_LITERALS][5];
        int kind;
        int count;
        int error;

        boolean isFact() {
            return error == NONE && kind == FACT;
        }

        boolean isGroundFact() {
            return isFact() && Terms.variablesIn(atoms[0]) == 0;
        }

        boolean hasAtom(int i) {
            return literals[i][OP] <= GREATEST;
        }

        boolean isUnsafe() {
            int bound = 0;
            int facts = 0;
            for (int i = 0; i < count; i++) {
                if (isUnsafeAt(i, bound)) {
                    return true;
                }
                if (literals[i][OP] <= RECENT) {
                    facts++;
                    bound |= Terms.variablesIn(atoms[i + 1]);
                }
                bound |= Terms.bit(literals[i][TARGET]);
            }
            return facts > MOST_ATOMS || (Terms.variablesIn(atoms[0]) & ~bound) != 0;
        }

        private boolean isUnsafeAt(int i, int bound) {
            int[] literal = literals[i];
            int op = literal[OP];
            int parts = Terms.bit(literal[LEFT]) | Terms.bit(literal[RIGHT]);
            int inside = Terms.variablesIn(atoms[i + 1]);
            if ((Terms.bit(literal[TARGET]) & bound) != 0) {
                return true;
            }
            if (op <= RECENT) {
                return false;
            }
            if (op > GREATEST) {
                return (parts & ~bound) != 0;
            }
            int owned = inside & ~bound;
            return op == NOT ? owned != 0 : (parts & ~inside) != 0 || (owned & elsewhere(i)) != 0;
        }

        /** The variables outside the atom of a literal, but for the one behind its own bracket. */
        private int elsewhere(int i) {
            int bits = Terms.variablesIn(atoms[0]) | Terms.bit(literals[i][TARGET]);
            for (int j = 0; j < count; j++) {
                if (j != i) {
                    int[] other = literals[j];
                    bits |= Terms.variablesIn(atoms[j + 1]) | Terms.bit(other[TARGET]);
                    bits |= Terms.bit(other[LEFT]) | Terms.bit(other[RIGHT]);
                }
            }
            return bits;
        }
    }

    /** The text that is typed, and its reading from left to right, which stops at the first error. */
    private static final class Text {
        static final int LONGEST = 60;
        static final int MOST_LETTERS_AROUND = 3;
        static final int MOST_TERMS = 3;
        static final int MOST_DIGITS = 2;

        private final char[] signs = new char[LONGEST];
        int length;
        private Rule rule;
        private int at;
        private boolean bad;

        boolean put(char sign) {
            if (length >= LONGEST) {
                return false;
            }
            signs[length] = sign;
            length++;
            rule = null;
            return true;
        }

        void empty() {
            length = 0;
            rule = null;
        }

        Rule read() {
            if (rule != null) {
                return rule;
            }
            rule = new Rule();
            at = 0;
            bad = false;
            if (here() == '?') {
                at++;
                rule.kind = Rule.CHOICE;
                atom(rule.atoms[0]);
                take(':');
                body();
            } else if (here() == ':') {
                at++;
                rule.kind = Rule.CONSTRAINT;
                body();
            } else {
                atom(rule.atoms[0]);
                if (here() == ':') {
                    at++;
                    rule.kind = Rule.RULE;
                    body();
                }
            }
            take('.');
            rule.error = bad || at < length ? at : NONE;
            return rule;
        }

        private void body() {
            int count = 0;
            do {
                if (count > 0) {
                    at++;
                }
                literal(rule.literals[count], rule.atoms[count + 1]);
                count++;
            } while (count < Rule.MOST_LITERALS && here() == ',');
            rule.count = count;
        }

        private void literal(int[] row, int[] atom) {
            char first = here();
            if (isVariable(first)) {
                computed(row, atom, variable());
            } else if (first == '!') {
                at++;
                row[Rule.OP] = Rule.NOT;
                atom(atom);
            } else if (isDigit(first)) {
                row[Rule.OP] = Rule.AT_LEAST;
                row[Rule.NUMBER] = number();
                take('*');
                atom(atom);
            } else {
                atom(atom);
                if (here() == '^') {
                    at++;
                    row[Rule.OP] = Rule.RECENT;
                    row[Rule.NUMBER] = number();
                }
            }
        }

        /** A literal that begins with a variable, behind this one. */
        private void computed(int[] row, int[] atom, int variable) {
            int comparison = comparison(here());
            if (comparison != NONE) {
                at++;
                row[Rule.OP] = comparison;
                row[Rule.LEFT] = variable;
                row[Rule.RIGHT] = variable();
                return;
            }
            take('~');
            row[Rule.TARGET] = variable;
            int counting = counting(here());
            if (counting == NONE) {
                row[Rule.LEFT] = part();
                row[Rule.OP] = calculation(here());
                bad = bad || row[Rule.OP] == NONE;
                at += bad ? 0 : 1;
                row[Rule.RIGHT] = part();
                return;
            }
            at++;
            row[Rule.OP] = counting;
            take('(');
            if (counting != Rule.COUNT) {
                row[Rule.LEFT] = variable();
                take(';');
            }
            atom(atom);
            take(')');
        }

        private void atom(int[] row) {
            char letter = here();
            if (!isLetter(letter)) {
                bad = true;
                return;
            }
            at++;
            take('(');
            int count = 0;
            do {
                if (count > 0) {
                    at++;
                }
                count++;
                row[count] = term();
            } while (count < MOST_TERMS && here() == ',');
            take(')');
            row[0] = 4 * (letter - 'a') + count;
        }

        private int term() {
            int chain = 0;
            int unit = 1;
            int around = 0;
            while (around < MOST_LETTERS_AROUND && isLetter(here()) && opensBehind()) {
                chain += unit * (here() - 'a' + 1);
                unit *= Terms.CHAIN_BASE;
                around++;
                at += 2;
            }
            char sign = here();
            int inner;
            if (isLetter(sign)) {
                at++;
                inner = Terms.FIRST_LETTER + sign - 'a';
            } else {
                inner = isVariable(sign) ? variable() : number();
            }
            for (int i = 0; i < around; i++) {
                take(']');
            }
            return inner < 0 ? Terms.open(Terms.variableOf(inner), chain) : Terms.wrapped(inner, chain);
        }

        private boolean opensBehind() {
            return at + 1 < length && signs[at + 1] == '[';
        }

        private int part() {
            return isVariable(here()) ? variable() : number();
        }

        private int variable() {
            if (bad || at >= length || signs[at] < 'A' || signs[at] > 'Z') {
                bad = true;
                return 0;
            }
            at++;
            return 'A' - signs[at - 1] - 1;
        }

        private int number() {
            int value = 0;
            int digits = 0;
            while (!bad && digits < MOST_DIGITS && at < length && signs[at] >= '0' && signs[at] <= '9') {
                value = 10 * value + signs[at] - '0';
                digits++;
                at++;
            }
            bad = bad || digits == 0;
            return value;
        }

        private static int comparison(char sign) {
            if (sign == '<') {
                return Rule.LESS;
            }
            if (sign == '=') {
                return Rule.SAME;
            }
            return sign == '#' ? Rule.OTHER : NONE;
        }

        private static int counting(char sign) {
            if (sign == 'n') {
                return Rule.COUNT;
            }
            if (sign == 's') {
                return Rule.SUM;
            }
            if (sign == 'm') {
                return Rule.LEAST;
            }
            return sign == 'x' ? Rule.GREATEST : NONE;
        }

        private static int calculation(char sign) {
            if (sign == '+') {
                return Rule.PLUS;
            }
            if (sign == '-') {
                return Rule.MINUS;
            }
            return sign == '*' ? Rule.TIMES : NONE;
        }

        /** The sign at the place that is read; 0 behind the end and behind an error. */
        private char here() {
            return !bad && at < length ? signs[at] : (char) 0;
        }

        private void take(char sign) {
            if (!bad && at < length && signs[at] == sign) {
                at++;
            } else {
                bad = true;
            }
        }

        static boolean isLetter(char sign) {
            return sign >= 'a' && sign <= 'z';
        }

        static boolean isVariable(char sign) {
            return sign >= 'A' && sign <= 'Z';
        }

        static boolean isDigit(char sign) {
            return sign >= '0' && sign <= '9';
        }
    }

    /** Facts in rows: a predicate and three arguments (0 behind the last one), and what is known of them. */
    private static final class Table {
        static final int PREDICATE = 0;
        static final int FACT_COLUMNS = 4;
        static final int TOLD_AT = 4;
        static final int UNTIL = 5;
        static final int PICKED = 6;
        static final int STRATUM = 7;
        static final int ROUND = 8;
        static final int COLUMNS = 9;

        final int[][] rows;
        int count;

        Table(int size) {
            rows = new int[size][COLUMNS];
        }

        void empty() {
            count = 0;
        }

        /** Below 0, 0 or above it, as the first fact is ahead of the second one, the same or behind it. */
        static int order(int[] first, int[] second) {
            for (int k = 0; k < FACT_COLUMNS; k++) {
                if (first[k] != second[k]) {
                    return first[k] < second[k] ? -1 : 1;
                }
            }
            return 0;
        }

        int find(int[] fact) {
            for (int i = 0; i < count; i++) {
                if (order(rows[i], fact) == 0) {
                    return i;
                }
            }
            return NONE;
        }

        /** Puts a fact behind the others, as one that is neither told nor chosen; NONE if there is no room. */
        int put(int[] fact) {
            if (count >= rows.length) {
                return NONE;
            }
            int[] row = rows[count];
            for (int k = 0; k < COLUMNS; k++) {
                row[k] = k < FACT_COLUMNS ? fact[k] : 0;
            }
            row[TOLD_AT] = NONE;
            count++;
            return count - 1;
        }

        void remove(int place) {
            int[] gone = rows[place];
            for (int i = place; i + 1 < count; i++) {
                rows[i] = rows[i + 1];
            }
            count--;
            rows[count] = gone;
        }

        void sort() {
            for (int i = 1; i < count; i++) {
                int[] row = rows[i];
                int k = i;
                while (k > 0 && order(row, rows[k - 1]) < 0) {
                    rows[k] = rows[k - 1];
                    k--;
                }
                rows[k] = row;
            }
        }

        void copyFrom(Table other) {
            count = 0;
            for (int i = 0; i < other.count && i < rows.length; i++) {
                int[] row = rows[i];
                int[] from = other.rows[i];
                for (int k = 0; k < COLUMNS; k++) {
                    row[k] = from[k];
                }
                count++;
            }
        }
    }

    /** What changes are made to: the facts that are told, and the rules, constraints and choices. */
    private static final class State {
        final Table told = new Table(MOST_TOLD);
        final Rule[] rules = new Rule[MOST_RULES];
        final int[] numbers = new int[MOST_RULES];
        int count;
        int nextNumber;

        State() {
            Rule blank = new Rule();
            for (int i = 0; i < MOST_RULES; i++) {
                rules[i] = blank;
            }
        }

        void copyFrom(State other) {
            told.copyFrom(other.told);
            for (int i = 0; i < MOST_RULES; i++) {
                rules[i] = other.rules[i];
                numbers[i] = other.numbers[i];
            }
            count = other.count;
            nextNumber = other.nextNumber;
        }

        boolean hasRoomFor(Rule rule) {
            if (rule.kind != Rule.FACT) {
                return count < MOST_RULES;
            }
            return told.count < MOST_TOLD || told.find(rule.atoms[0]) != NONE;
        }

        void tell(int[] fact, int now, int life) {
            int place = told.find(fact);
            if (place == NONE) {
                place = told.put(fact);
            }
            if (place != NONE) {
                told.rows[place][Table.TOLD_AT] = now;
                told.rows[place][Table.UNTIL] = life == 0 ? 0 : now + life;
            }
        }

        void append(Rule rule) {
            if (count < MOST_RULES) {
                rules[count] = rule;
                numbers[count] = nextNumber;
                count++;
                nextNumber++;
            }
        }

        int placeOf(int number) {
            for (int i = 0; i < count; i++) {
                if (numbers[i] == number) {
                    return i;
                }
            }
            return NONE;
        }

        void remove(int place) {
            for (int i = place; i + 1 < count; i++) {
                rules[i] = rules[i + 1];
                numbers[i] = numbers[i + 1];
            }
            count--;
        }

        /** Lets the facts go whose life is over at a tick, and tells how many these are. */
        int expire(int tick) {
            int gone = 0;
            for (int i = told.count - 1; i >= 0; i--) {
                if (told.rows[i][Table.UNTIL] == tick) {
                    told.remove(i);
                    gone++;
                }
            }
            return gone;
        }

        boolean hasChoice() {
            for (int i = 0; i < count; i++) {
                if (rules[i].kind == Rule.CHOICE) {
                    return true;
                }
            }
            return false;
        }
    }

    /** The stratum of each predicate, and of a rule that of its head. */
    private static final class Strata {
        /** A way up has no more than 13 rules, and each of 14 strata is reached in so many sweeps. */
        private static final int MOST_SWEEPS = 1000;

        final int[] levels = new int[PREDICATES];
        int top;

        /** Whether there are strata for a state's rules with one more, which a fact does not change. */
        boolean fill(State state, Rule more) {
            Arrays.fill(levels, 0);
            top = 0;
            for (int sweep = 0; sweep < MOST_SWEEPS && top <= MOST_RULES + 1; sweep++) {
                boolean raised = more != null && lift(more);
                for (int i = 0; i < state.count; i++) {
                    if (lift(state.rules[i])) {
                        raised = true;
                    }
                }
                if (!raised) {
                    return true;
                }
            }
            return false;
        }

        int of(Rule rule) {
            return levels[rule.atoms[0][0]];
        }

        /** Lifts the head of a rule above what it rests on, and tells whether it had to be. */
        private boolean lift(Rule rule) {
            if (rule.kind == Rule.CONSTRAINT) {
                return false;
            }
            int head = rule.atoms[0][0];
            int before = levels[head];
            for (int i = 0; i < rule.count; i++) {
                if (rule.hasAtom(i)) {
                    int strict = rule.kind == Rule.CHOICE || rule.literals[i][Rule.OP] >= Rule.NOT ? 1 : 0;
                    levels[head] = Math.max(levels[head], levels[rule.atoms[i + 1][0]] + strict);
                }
            }
            top = Math.max(top, levels[head]);
            return levels[head] > before;
        }
    }

    /**
     * Walks through all values for which a body holds, literal by literal, without recursion: a level
     * for each literal, with the place it has come to and how many variables had values ahead of it.
     */
    private static final class Walk {
        private final int[] values = new int[VARIABLES];
        private final int[] trail = new int[VARIABLES];
        private final int[] marks = new int[Rule.MOST_LITERALS + 1];
        private final int[] cursors = new int[Rule.MOST_LITERALS + 1];
        private final int[] likes = new int[MOST_FACTS];
        private final int[] likeValues = new int[MOST_FACTS];
        private Rule rule = new Rule();
        private Table table = new Table(0);
        private Table counted = table;
        private int end;
        private int countedEnd;
        private int now;
        private int valued;
        private int level;
        private int deepest;
        private boolean fresh;
        private boolean asking;
        private boolean paused;

        /** Only the facts of the table ahead of end are seen, so that what comes meanwhile is not. */
        void start(Rule rule, Table table, int end, int now) {
            this.rule = rule;
            this.table = table;
            this.end = Math.min(end, table.rows.length);
            this.now = now;
            counted = table;
            countedEnd = this.end;
            asking = false;
            paused = false;
            Arrays.fill(values, Terms.UNBOUND);
            valued = 0;
            level = 0;
            deepest = 0;
            fresh = true;
        }

        /**
         * Stops ahead of each atom then, so that it can be asked as a goal; what is told and what is
         * counted is looked up in the model.
         */
        void stopAtAtoms(Table model) {
            asking = true;
            counted = model;
            countedEnd = model.count;
        }

        /** The atom ahead of which the walk has stopped; null if it has come through the body. */
        int[] atomAhead() {
            return paused ? rule.atoms[level + 1] : null;
        }

        boolean headIs(int[] fact) {
            return unify(rule.atoms[0], fact);
        }

        /** How many literals held, one behind the other, at most until now. */
        int deepest() {
            return deepest;
        }

        /** Goes on to the next values for which the body holds (or to a stop); false if there are none. */
        boolean forward() {
            boolean resumed = paused;
            paused = false;
            if (fresh) {
                fresh = false;
                enter(0);
            } else if (!resumed) {
                level--;
            }
            for (int step = 0; step < MANY && level >= 0 && level < rule.count; step++) {
                undo(marks[level]);
                int[] literal = rule.literals[level];
                int op = literal[Rule.OP];
                if (asking && !resumed && op == Rule.ATOM && cursors[level] == 0) {
                    paused = true;
                    return true;
                }
                resumed = false;
                boolean holds = false;
                if (op <= Rule.RECENT) {
                    holds = nextFact(op == Rule.RECENT, literal[Rule.NUMBER]);
                } else if (cursors[level] == 0) {
                    cursors[level] = 1;
                    holds = op > Rule.GREATEST ? computes(op, literal)
                            : counts(op, literal, gather(rule.atoms[level + 1], literal[Rule.LEFT]));
                }
                if (holds) {
                    enter(level + 1);
                } else {
                    level--;
                }
            }
            return level == rule.count;
        }

        private void enter(int next) {
            level = next;
            deepest = Math.max(deepest, level);
            marks[level] = valued;
            cursors[level] = 0;
        }

        private void undo(int mark) {
            while (valued > mark) {
                valued--;
                values[trail[valued]] = Terms.UNBOUND;
            }
        }

        private boolean nextFact(boolean recent, int age) {
            int[] atom = rule.atoms[level + 1];
            Table from = recent ? counted : table;
            int last = recent ? countedEnd : end;
            while (cursors[level] < last) {
                int[] fact = from.rows[cursors[level]];
                cursors[level]++;
                boolean young = !recent || fact[Table.TOLD_AT] != NONE && now - fact[Table.TOLD_AT] <= age;
                if (young && unify(atom, fact)) {
                    return true;
                }
                undo(marks[level]);
            }
            return false;
        }

        /** The place of the fact that the atom of a literal is now. */
        int placeOf(int literal) {
            return cursors[literal] - 1;
        }

        int like(int i) {
            return likes[i];
        }

        /** Keeps the facts that are like an atom now, each with the value of one variable, and counts them. */
        int gather(int[] atom, int variable) {
            int mark = valued;
            int found = 0;
            for (int i = 0; i < countedEnd && found < likes.length; i++) {
                if (unify(atom, counted.rows[i])) {
                    likes[found] = i;
                    likeValues[found] = variable < 0 ? values[Terms.variableOf(variable)] : 0;
                    found++;
                }
                undo(mark);
            }
            return found;
        }

        private boolean counts(int op, int[] literal, int found) {
            switch (op) {
                case Rule.AT_LEAST:
                    return found >= literal[Rule.NUMBER];
                case Rule.NOT:
                    return found == 0;
                case Rule.COUNT:
                    return becomes(literal[Rule.TARGET], found);
                case Rule.SUM:
                    return becomes(literal[Rule.TARGET], sum(found));
                default:
                    return becomes(literal[Rule.TARGET], outermost(op == Rule.LEAST, found));
            }
        }

        private int sum(int found) {
            int sum = 0;
            for (int i = 0; i < found; i++) {
                sum += likeValues[i] < Terms.FIRST_LETTER ? likeValues[i] : 0;
            }
            return sum < Terms.FIRST_LETTER ? sum : NONE;
        }

        private int outermost(boolean least, int found) {
            int best = NONE;
            for (int i = 0; i < found; i++) {
                int value = likeValues[i];
                if (best == NONE || (least ? value < best : value > best)) {
                    best = value;
                }
            }
            return best;
        }

        private boolean computes(int op, int[] literal) {
            int left = valueOf(literal[Rule.LEFT]);
            int right = valueOf(literal[Rule.RIGHT]);
            if (op == Rule.LESS) {
                return left < right;
            }
            if (op == Rule.SAME || op == Rule.OTHER) {
                return (left == right) == (op == Rule.SAME);
            }
            if (left >= Terms.FIRST_LETTER || right >= Terms.FIRST_LETTER) {
                return false;
            }
            int result = op == Rule.PLUS ? left + right : op == Rule.MINUS ? left - right : left * right;
            return result < Terms.FIRST_LETTER && becomes(literal[Rule.TARGET], result);
        }

        private int valueOf(int part) {
            return part < 0 ? values[(-1 - part) % VARIABLES] : part;
        }

        /** With a head whose values are given a target may have its value already. */
        private boolean becomes(int target, int value) {
            if (target >= 0 || value < 0) {
                return false;
            }
            int variable = (-1 - target) % VARIABLES;
            if (values[variable] != Terms.UNBOUND) {
                return values[variable] == value;
            }
            values[variable] = value;
            trail[valued] = variable;
            valued++;
            return true;
        }

        /** Gives variables the values with which an atom is a fact; what the fact leaves open fits all. */
        private boolean unify(int[] atom, int[] fact) {
            if (atom[0] != fact[0]) {
                return false;
            }
            for (int k = 1; k <= (atom[0] & 3); k++) {
                int term = atom[k];
                int value = fact[k];
                if (term >= 0 && value != term && value != Terms.UNBOUND) {
                    return false;
                }
                if (term >= 0 || value == Terms.UNBOUND) {
                    continue;
                }
                int chain = (-1 - term) / VARIABLES;
                while (chain > 0 && value >= Terms.BASE
                        && value % Terms.BASE == Terms.FIRST_LETTER - 1 + chain % Terms.CHAIN_BASE) {
                    value = value / Terms.BASE - 1;
                    chain /= Terms.CHAIN_BASE;
                }
                int variable = (-1 - term) % VARIABLES;
                if (chain > 0 || values[variable] != Terms.UNBOUND && values[variable] != value) {
                    return false;
                }
                if (values[variable] == Terms.UNBOUND) {
                    values[variable] = value;
                    trail[valued] = variable;
                    valued++;
                }
            }
            return true;
        }

        /** Writes an atom with its values as they are now into a fact; false if one is too deep. */
        boolean write(int[] atom, int[] fact) {
            fact[0] = atom[0];
            for (int k = 1; k < Table.FACT_COLUMNS; k++) {
                int term = k <= (atom[0] & 3) ? atom[k] : 0;
                if (term < 0) {
                    int inner = values[Terms.variableOf(term)];
                    term = inner == Terms.UNBOUND ? inner : Terms.wrapped(inner, Terms.chainOf(term));
                }
                if (term == Terms.TOO_DEEP) {
                    return false;
                }
                fact[k] = term;
            }
            return true;
        }
    }

    /** Makes the model of a state, way of choosing by way of choosing, until no constraint is broken. */
    private static final class Maker {
        private static final int MOST_GROUPS = MOST_RULES * MOST_CANDIDATES;
        /** Each further round brings a fact, so there are not more of them than facts. */
        private static final int MOST_ROUNDS = MOST_FACTS + 2;

        private final Strata strata = new Strata();
        private final Walk walk = new Walk();
        private final Table candidates = new Table(MOST_CANDIDATES);
        private final int[] fact = new int[Table.FACT_COLUMNS];
        private final int[] picks = new int[MOST_GROUPS];
        private final int[] sizes = new int[MOST_GROUPS];
        private final int[] lastCame = new int[PREDICATES];
        private State state = new State();
        private Table table = candidates;
        private int now;
        private boolean naive;
        private int groups;
        private int settled;

        /** Fills the table with the model; tells why it is refused, 6 to 8, or 0. */
        int build(State state, int now, Table table, boolean naive) {
            this.state = state;
            this.now = now;
            this.table = table;
            this.naive = naive;
            strata.fill(state, null);
            settled = 0;
            for (int way = 0; way < MOST_WAYS; way++) {
                if (!fill()) {
                    return TOO_BIG;
                }
                if (!isBroken()) {
                    table.sort();
                    return 0;
                }
                if (!state.hasChoice()) {
                    return BROKEN;
                }
                if (!turn()) {
                    return NO_WAY;
                }
            }
            return NO_WAY;
        }

        private boolean fill() {
            table.empty();
            groups = 0;
            Arrays.fill(lastCame, 0);
            for (int i = 0; i < state.told.count; i++) {
                int[] row = state.told.rows[i];
                int place = enter(row, strata.levels[row[Table.PREDICATE]], 0);
                if (place == NONE) {
                    return false;
                }
                table.rows[place][Table.TOLD_AT] = row[Table.TOLD_AT];
            }
            for (int stratum = 0; stratum <= strata.top; stratum++) {
                for (int i = 0; i < state.count; i++) {
                    Rule rule = state.rules[i];
                    if (rule.kind == Rule.CHOICE && strata.of(rule) == stratum && !choose(rule, stratum)) {
                        return false;
                    }
                }
                if (!derive(stratum)) {
                    return false;
                }
            }
            return true;
        }

        private int enter(int[] fact, int stratum, int round) {
            int place = table.put(fact);
            if (place != NONE) {
                table.rows[place][Table.STRATUM] = stratum;
                table.rows[place][Table.ROUND] = round;
            }
            return place;
        }

        private boolean choose(Rule choice, int stratum) {
            candidates.empty();
            walk.start(choice, table, table.count, now);
            for (int step = 0; step < MANY && walk.forward(); step++) {
                if (walk.write(choice.atoms[0], fact) && candidates.find(fact) == NONE
                        && candidates.put(fact) == NONE) {
                    return false;
                }
            }
            candidates.sort();
            int first = 0;
            for (int behind = 1; behind <= candidates.count; behind++) {
                if (behind == candidates.count
                        || !isOneGroup(candidates.rows[first], candidates.rows[behind])) {
                    if (!pick(first, behind - first, stratum)) {
                        return false;
                    }
                    first = behind;
                }
            }
            return true;
        }

        private static boolean isOneGroup(int[] one, int[] other) {
            for (int k = 1; k < Terms.arity(one); k++) {
                if (one[k] != other[k]) {
                    return false;
                }
            }
            return true;
        }

        /** The groups ahead of settled keep what was picked; they come the same again in the next way. */
        private boolean pick(int first, int size, int stratum) {
            if (groups >= MOST_GROUPS) {
                return false;
            }
            int picked = groups < settled ? Math.min(picks[groups], size - 1) : 0;
            picks[groups] = picked;
            sizes[groups] = size;
            groups++;
            int[] chosen = candidates.rows[first + picked];
            int place = table.find(chosen);
            if (place == NONE) {
                place = enter(chosen, stratum, 0);
            }
            if (place == NONE) {
                return false;
            }
            table.rows[place][Table.PICKED] = 1;
            return true;
        }

        private boolean derive(int stratum) {
            boolean came = true;
            for (int round = 1; came && round <= MOST_ROUNDS; round++) {
                int end = table.count;
                for (int i = 0; i < state.count; i++) {
                    Rule rule = state.rules[i];
                    if (rule.kind != Rule.RULE || strata.of(rule) != stratum || !mayBring(rule, stratum, round)) {
                        continue;
                    }
                    walk.start(rule, table, end, now);
                    for (int step = 0; step < MANY && walk.forward(); step++) {
                        if (!bring(rule, stratum, round)) {
                            return false;
                        }
                    }
                }
                came = table.count > end;
            }
            return true;
        }

        /** After the first round a rule brings nothing, if nothing came that its atoms could be. */
        private boolean mayBring(Rule rule, int stratum, int round) {
            if (naive || round == 1) {
                return true;
            }
            for (int i = 0; i < rule.count; i++) {
                int op = rule.literals[i][Rule.OP];
                boolean grows = op == Rule.ATOM || op == Rule.AT_LEAST;
                if (grows && lastCame[rule.atoms[i + 1][0]] >= stamp(stratum, round - 1)) {
                    return true;
                }
            }
            return false;
        }

        private static int stamp(int stratum, int round) {
            return stratum * (MOST_ROUNDS + 1) + round;
        }

        private boolean bring(Rule rule, int stratum, int round) {
            if (!walk.write(rule.atoms[0], fact) || table.find(fact) != NONE) {
                return true;
            }
            lastCame[fact[0]] = stamp(stratum, round);
            return enter(fact, stratum, round) != NONE;
        }

        private boolean isBroken() {
            for (int i = 0; i < state.count; i++) {
                if (state.rules[i].kind == Rule.CONSTRAINT) {
                    walk.start(state.rules[i], table, table.count, now);
                    if (walk.forward()) {
                        return true;
                    }
                }
            }
            return false;
        }

        /** Turns to the next way; false if there is none. */
        private boolean turn() {
            for (int i = groups - 1; i >= 0; i--) {
                if (picks[i] + 1 < sizes[i]) {
                    picks[i]++;
                    settled = i + 1;
                    return true;
                }
            }
            return false;
        }
    }

    /** Counts what is like an atom: in the model at once, or by goals from rule to rule. */
    private static final class Asker {
        /** With more goals than these all values of further ones are left open, so that they have an end. */
        private static final int MOST_SPECIAL = 200;

        private final Table goals = new Table(MOST_SPECIAL + PREDICATES);
        private final Table proven = new Table(MOST_FACTS);
        private final Walk walk = new Walk();
        private final int[] goal = new int[Table.FACT_COLUMNS];
        private final int[] fact = new int[Table.FACT_COLUMNS];
        private Table model = proven;

        int countLike(Table model, Rule question) {
            walk.start(question, model, model.count, 0);
            return walk.gather(question.atoms[0], 0);
        }

        int countByGoals(State state, Table model, int now, Rule question) {
            this.model = model;
            goals.empty();
            proven.empty();
            walk.start(question, proven, 0, now);
            ask(question.atoms[0]);
            int before = 0;
            for (int round = 0; round < MANY && goals.count + proven.count > before; round++) {
                before = goals.count + proven.count;
                int asked = goals.count;
                for (int i = 0; i < asked; i++) {
                    answer(state, goals.rows[i], now);
                }
            }
            return countLike(proven, question);
        }

        /** Makes a goal of an atom with the values that it has now, if it is none yet. */
        private void ask(int[] atom) {
            if (!walk.write(atom, goal) || goals.find(goal) != NONE) {
                return;
            }
            if (goals.count >= MOST_SPECIAL) {
                for (int k = 1; k <= Terms.arity(goal); k++) {
                    goal[k] = Terms.UNBOUND;
                }
                if (goals.find(goal) != NONE) {
                    return;
                }
            }
            goals.put(goal);
            for (int i = 0; i < model.count; i++) {
                int[] row = model.rows[i];
                boolean given = row[Table.TOLD_AT] != NONE || row[Table.PICKED] == 1;
                if (given && isAnswer(row) && proven.find(row) == NONE) {
                    proven.put(row);
                }
            }
        }

        private boolean isAnswer(int[] row) {
            for (int k = 0; k < Table.FACT_COLUMNS; k++) {
                if (goal[k] != Terms.UNBOUND && goal[k] != row[k]) {
                    return false;
                }
            }
            return true;
        }

        private void answer(State state, int[] asked, int now) {
            for (int i = 0; i < state.count; i++) {
                Rule rule = state.rules[i];
                if (rule.kind != Rule.RULE) {
                    continue;
                }
                walk.start(rule, proven, proven.count, now);
                walk.stopAtAtoms(model);
                if (!walk.headIs(asked)) {
                    continue;
                }
                for (int step = 0; step < MANY && walk.forward(); step++) {
                    int[] ahead = walk.atomAhead();
                    if (ahead != null) {
                        ask(ahead);
                    } else if (walk.write(rule.atoms[0], fact) && proven.find(fact) == NONE) {
                        proven.put(fact);
                    }
                }
            }
        }
    }

    /** Reasons of the facts of a model; their least proofs are kept until it is told to forget them. */
    private static final class Reasoner {
        private static final int MOST = 1000000;
        private static final int UNKNOWN = MOST + 1;

        private final Walk walk = new Walk();
        private final int[] costs = new int[MOST_FACTS];
        private final int[] cheapest = new int[MOST_FACTS];
        private boolean known;

        void forget() {
            known = false;
        }

        int countReasons(State state, Table model, int now, int place) {
            int[] fact = model.rows[place];
            int found = (isTold(fact) ? 1 : 0) + fact[Table.PICKED];
            for (int i = 0; i < state.count; i++) {
                if (leadsTo(state.rules[i], model, now, fact)) {
                    for (int step = 0; step < MANY && walk.forward(); step++) {
                        found++;
                    }
                }
            }
            return found;
        }

        int leastProof(State state, Table model, int now, int place) {
            prove(state, model, now);
            return costs[place];
        }

        /** TOLD, CHOSEN or the number of the first rule by which a least proof begins. */
        int firstCause(State state, Table model, int now, int place) {
            prove(state, model, now);
            int[] fact = model.rows[place];
            if (isTold(fact)) {
                return TOLD;
            }
            if (fact[Table.PICKED] == 1) {
                return CHOSEN;
            }
            for (int i = 0; i < state.count; i++) {
                if (cheapestBy(state.rules[i], model, now, fact) == costs[place]) {
                    return state.numbers[i];
                }
            }
            return NONE;
        }

        int nearestRule(State state, Table model, int now, int[] fact) {
            int most = NONE;
            int number = NONE;
            for (int i = 0; i < state.count; i++) {
                if (leadsTo(state.rules[i], model, now, fact)) {
                    walk.forward();
                    if (walk.deepest() > most) {
                        most = walk.deepest();
                        number = state.numbers[i];
                    }
                }
            }
            return most == NONE ? NONE : 10 * number + most;
        }

        private static boolean isTold(int[] fact) {
            return fact[Table.TOLD_AT] != NONE;
        }

        /** Begins a walk through the body of a rule, its head being the fact; false if it cannot be. */
        private boolean leadsTo(Rule rule, Table model, int now, int[] fact) {
            walk.start(rule, model, model.count, now);
            return rule.kind == Rule.RULE && walk.headIs(fact);
        }

        /** A proof is dearer than those in it, so each pass settles at least one more fact. */
        private void prove(State state, Table model, int now) {
            if (known) {
                return;
            }
            known = true;
            for (int i = 0; i < model.count; i++) {
                int[] fact = model.rows[i];
                costs[i] = isTold(fact) || fact[Table.PICKED] == 1 ? 1 : UNKNOWN;
            }
            boolean cheaper = true;
            for (int pass = 0; cheaper && pass < MANY; pass++) {
                cheaper = false;
                for (int i = 0; i < model.count; i++) {
                    if (costs[i] > 1 && isCheaperNow(state, model, now, i)) {
                        cheaper = true;
                    }
                }
            }
        }

        private boolean isCheaperNow(State state, Table model, int now, int place) {
            int before = costs[place];
            for (int i = 0; i < state.count; i++) {
                int cost = cheapestBy(state.rules[i], model, now, model.rows[place]);
                costs[place] = Math.min(costs[place], cost);
            }
            return costs[place] < before;
        }

        /** The least proof that begins by a rule, as far as its facts have proofs yet. */
        private int cheapestBy(Rule rule, Table model, int now, int[] fact) {
            int least = UNKNOWN;
            if (leadsTo(rule, model, now, fact)) {
                for (int step = 0; step < MANY && walk.forward(); step++) {
                    least = Math.min(least, costOf(rule));
                }
            }
            return least;
        }

        private int costOf(Rule rule) {
            int sum = 1;
            for (int i = 0; i < rule.count; i++) {
                int op = rule.literals[i][Rule.OP];
                int cost = op == Rule.RECENT ? 1 : 0;
                if (op == Rule.ATOM) {
                    cost = costs[walk.placeOf(i)];
                } else if (op == Rule.AT_LEAST) {
                    cost = cheapestOf(rule.literals[i][Rule.NUMBER], walk.gather(rule.atoms[i + 1], 0));
                }
                if (cost == UNKNOWN) {
                    return UNKNOWN;
                }
                sum = Math.min(MOST, sum + cost);
            }
            return sum;
        }

        /** The least proofs of so many of the facts that the walk has gathered, together. */
        private int cheapestOf(int wanted, int found) {
            for (int i = 0; i < found; i++) {
                int cost = costs[walk.like(i)];
                int k = i;
                while (k > 0 && cheapest[k - 1] > cost) {
                    cheapest[k] = cheapest[k - 1];
                    k--;
                }
                cheapest[k] = cost;
            }
            int sum = 0;
            for (int i = 0; i < wanted && i < found; i++) {
                if (cheapest[i] == UNKNOWN) {
                    return UNKNOWN;
                }
                sum = Math.min(MOST, sum + cheapest[i]);
            }
            return sum;
        }
    }
}
