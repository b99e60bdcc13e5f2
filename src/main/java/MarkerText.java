import java.util.ArrayList;
import java.util.Arrays;

/** Conditions on environments: read, judged in one environment or in all, and printed; README.md tells more. */
public final class MarkerText {
    public static final int NONE = -1;

    private static final int FIRST_CODE = 32;
    private static final int LAST_CODE = 126;
    private static final int MAX_TEXT = 160;
    private static final int MAX_NAMES = 6;
    private static final int MAX_LETTERS = 8;
    private static final int MAX_KNOWN = 6;
    private static final int MAX_CONDITIONS = 8;
    private static final int MAX_OPEN = 12;
    private static final int MAX_TESTS = 40;
    private static final int MAX_LIST = 6;
    private static final int MAX_CHOICES = 20000;
    private static final int MAX_CLASSES = 1 << MAX_CONDITIONS;

    private static final int KIND_TEXT = 0;
    private static final int KIND_VERSION = 1;

    /*
     * A level is a VALUE as a number, so that levels are ordered as the VALUES of one name are.
     * VALUES have even levels from 2 on: the odd ones between are left for the GAPS, 0 for no VALUE.
     */
    private static final long NO_VALUE = 0;

    private final StringBuilder text = new StringBuilder();
    private final Name[] names = new Name[MAX_NAMES];
    private int nameCount = 0;
    private final Condition[] conditions = new Condition[MAX_CONDITIONS];
    private int conditionCount = 0;
    private int illPlace = NONE;
    private final long[] environment = new long[MAX_NAMES];
    private final Choices choices = new Choices();
    private final Parting parting = new Parting();

    public MarkerText() {
    }

    public boolean type(char c) {
        if (c < FIRST_CODE || c > LAST_CODE || text.length() >= MAX_TEXT) {
            return false;
        }
        text.append(c);
        return true;
    }

    public int name(int kind) throws IllegalArgumentException, IllegalStateException {
        String word = takeText();
        if (!isSpelledAsName(word) || numberOf(names, word) != NONE) {
            throw new IllegalArgumentException("no new name");
        }
        if (kind != KIND_TEXT && kind != KIND_VERSION) {
            throw new IllegalArgumentException("no such kind");
        }
        if (nameCount >= MAX_NAMES) {
            throw new IllegalStateException("too many names");
        }
        names[nameCount] = new Name(word, kind);
        nameCount++;
        return nameCount - 1;
    }

    public int value(int name) throws IllegalArgumentException, IllegalStateException {
        String written = takeText();
        Name owner = nameAt(name);
        if (owner == null) {
            throw new IllegalArgumentException("no such name");
        }
        long level = owner.levelOf(written, 0, written.length());
        if (level == NO_VALUE || owner.knows(level)) {
            throw new IllegalArgumentException("no new value of the name's kind");
        }
        if (owner.knownCount >= MAX_KNOWN) {
            throw new IllegalStateException("too many known values");
        }
        owner.learn(level);
        return owner.knownCount;
    }

    public int condition() throws IllegalArgumentException, IllegalStateException {
        Reader reader = new Reader(takeText(), names);
        Condition read = reader.readWhole();
        illPlace = read == null ? reader.at : NONE;
        if (read == null) {
            throw new IllegalArgumentException("the text is ill");
        }
        if (conditionCount >= MAX_CONDITIONS) {
            throw new IllegalStateException("too many conditions");
        }
        conditions[conditionCount] = read;
        conditionCount++;
        return conditionCount - 1;
    }

    public int place() {
        return illPlace;
    }

    public void give(int name) throws IllegalArgumentException {
        String written = takeText();
        Name owner = nameAt(name);
        if (owner == null) {
            throw new IllegalArgumentException("no such name");
        }
        long level = owner.levelOf(written, 0, written.length());
        if (level == NO_VALUE && !written.isEmpty()) {
            throw new IllegalArgumentException("no value of the name's kind");
        }
        environment[name] = level;
    }

    public boolean holds(int condition) {
        Condition asked = conditionAt(condition);
        return asked != null && asked.root.isTrueAt(environment);
    }

    public int ever(int condition) {
        if (conditionAt(condition) == null) {
            return NONE;
        }
        return findChoice(1 << condition, 0);
    }

    public int implies(int a, int b) {
        if (conditionAt(a) == null || conditionAt(b) == null) {
            return NONE;
        }
        return opposite(findChoice(1 << a, 1 << b));
    }

    public int apart(int a, int b) {
        if (conditionAt(a) == null || conditionAt(b) == null) {
            return NONE;
        }
        return opposite(findChoice(1 << a | 1 << b, 0));
    }

    public int classes(int set) {
        int there = set & (1 << conditionCount) - 1;
        if (!choices.layOut(names, conditions, there)) {
            return NONE;
        }
        parting.part(choices, conditions, there);
        return parting.count;
    }

    public int many(int k) {
        return parting.has(k) ? parting.sizes[k] : NONE;
    }

    public boolean inClass(int k, int condition) {
        return parting.has(k) && conditionAt(condition) != null && (parting.truths[k] >> condition & 1) == 1;
    }

    public int sample(int k, int name) {
        return parting.has(k) && nameAt(name) != null ? parting.firstPick(k, name) : NONE;
    }

    public int printed(int condition, int i) {
        Condition asked = conditionAt(condition);
        return asked != null && i >= 0 && i < asked.shown.length() ? asked.shown.charAt(i) : 0;
    }

    private String takeText() {
        String taken = text.toString();
        text.setLength(0);
        return taken;
    }

    private Name nameAt(int number) {
        return number >= 0 && number < MAX_NAMES ? names[number] : null;
    }

    private Condition conditionAt(int number) {
        return number >= 0 && number < MAX_CONDITIONS ? conditions[number] : null;
    }

    /** 1 if some CHOICE makes all of one set true and none of the other, 0 if none does, NONE if they are TOO MANY. */
    private int findChoice(int trueOnes, int falseOnes) {
        int set = trueOnes | falseOnes;
        if (!choices.layOut(names, conditions, set)) {
            return NONE;
        }
        for (int i = 0; i < choices.count; i++) {
            int truths = choices.truths(conditions, set);
            if ((truths & trueOnes) == trueOnes && (truths & falseOnes) == 0) {
                return 1;
            }
            choices.advance();
        }
        return 0;
    }

    private static int opposite(int answer) {
        return answer == NONE ? NONE : 1 - answer;
    }

    private static boolean isLetter(char c) {
        return c >= 'a' && c <= 'z';
    }

    private static boolean isSpelledAsName(String word) {
        if (word.isEmpty() || word.length() > MAX_LETTERS) {
            return false;
        }
        for (int i = 0; i < word.length(); i++) {
            if (!isLetter(word.charAt(i))) {
                return false;
            }
        }
        return !word.equals("or") && !word.equals("and") && !word.equals("not")
                && !word.equals("in") && !word.equals("true") && !word.equals("false");
    }

    private static int numberOf(Name[] names, String word) {
        for (int i = 0; i < names.length; i++) {
            if (names[i] != null && names[i].spelling.equals(word)) {
                return i;
            }
        }
        return NONE;
    }

    private static final class Name {
        private static final int MAX_CHARACTERS = 8;
        private static final String CHARACTERS = ".0123456789abcdefghijklmnopqrstuvwxyz";
        /** The characters, and before them all the end. */
        private static final int RANKS = 38;
        private static final int MAX_NUMBERS = 3;
        private static final int MAX_DIGITS = 3;
        private static final int NUMBERS = 1000;

        private final String spelling;
        private final int kind;
        private final long[] known = new long[MAX_KNOWN];
        private int knownCount = 0;

        Name(String spelling, int kind) {
            this.spelling = spelling;
            this.kind = kind;
        }

        boolean knows(long level) {
            for (int i = 0; i < knownCount; i++) {
                if (known[i] == level) {
                    return true;
                }
            }
            return false;
        }

        void learn(long level) {
            if (knownCount < MAX_KNOWN) {
                known[knownCount] = level;
                knownCount++;
            }
        }

        /** The level of what stands from one place to before another; NO_VALUE if it is no VALUE of this name. */
        long levelOf(String written, int from, int to) {
            return kind == KIND_VERSION ? versionLevel(written, from, to) : textLevel(written, from, to);
        }

        private static long textLevel(String written, int from, int to) {
            if (to <= from || to - from > MAX_CHARACTERS) {
                return NO_VALUE;
            }
            long key = 0;
            for (int i = 0; i < MAX_CHARACTERS; i++) {
                boolean isEnded = from + i >= to;
                int rank = isEnded ? 0 : CHARACTERS.indexOf(written.charAt(from + i)) + 1;
                if (rank == 0 && !isEnded) {
                    return NO_VALUE;
                }
                key = key * RANKS + rank;
            }
            return 2 * key + 2;
        }

        private static long versionLevel(String written, int from, int to) {
            long key = 0;
            int number = 0;
            int digits = 0;
            int numbers = 1;
            for (int i = from; i < to; i++) {
                char c = written.charAt(i);
                if (c == '.' && digits > 0 && numbers < MAX_NUMBERS) {
                    key = key * NUMBERS + number;
                    number = 0;
                    digits = 0;
                    numbers++;
                } else if (c >= '0' && c <= '9' && digits < MAX_DIGITS && (digits == 0 || number > 0)) {
                    number = number * 10 + (c - '0');
                    digits++;
                } else {
                    return NO_VALUE;
                }
            }
            if (digits == 0) {
                return NO_VALUE;
            }
            key = key * NUMBERS + number;
            for (int i = numbers; i < MAX_NUMBERS; i++) {
                key = key * NUMBERS;
            }
            return 2 * key + 2;
        }
    }

    /** A part of a condition. The reader's limits keep the parts inside one another few. */
    private abstract static class Node {
        static final int OR = 1;
        static final int AND = 2;
        static final int WHOLE = 3;

        /** How strongly its own parts are joined. */
        final int strength;

        Node(int strength) {
            this.strength = strength;
        }

        /** Whether it is true where each name has the level that stands at its number. */
        abstract boolean isTrueAt(long[] levels);

        abstract void show(StringBuilder line);

        final void showInside(StringBuilder line, boolean brackets) {
            if (brackets) {
                line.append('(');
            }
            show(line);
            if (brackets) {
                line.append(')');
            }
        }
    }

    private static final class Join extends Node {
        private final Node first;
        private final Node second;

        Join(int strength, Node first, Node second) {
            super(strength);
            this.first = first;
            this.second = second;
        }

        boolean isTrueAt(long[] levels) {
            return strength == OR
                    ? first.isTrueAt(levels) || second.isTrueAt(levels)
                    : first.isTrueAt(levels) && second.isTrueAt(levels);
        }

        void show(StringBuilder line) {
            first.showInside(line, first.strength < strength);
            line.append(strength == OR ? " or " : " and ");
            // Parts are joined from the left: a second part of the same operator was a bracket.
            second.showInside(line, second.strength <= strength);
        }
    }

    private static final class Negation extends Node {
        private final Node inner;

        Negation(Node inner) {
            super(WHOLE);
            this.inner = inner;
        }

        boolean isTrueAt(long[] levels) {
            return !inner.isTrueAt(levels);
        }

        void show(StringBuilder line) {
            line.append("not ");
            inner.showInside(line, inner.strength < WHOLE);
        }
    }

    private static final class Constant extends Node {
        private final boolean truth;

        Constant(boolean truth) {
            super(WHOLE);
            this.truth = truth;
        }

        boolean isTrueAt(long[] levels) {
            return truth;
        }

        void show(StringBuilder line) {
            line.append(truth ? "true" : "false");
        }
    }

    /** A comparison with one VALUE, or in with several: true if one of them compares as is accepted. */
    private static final class Test extends Node {
        static final int LESS = 1;
        static final int SAME = 2;
        static final int GREATER = 4;
        static final int LACKING = 8;

        private final int name;
        private final int accepted;
        private final long[] values;
        private final String shown;

        Test(int name, int accepted, long[] values, String shown) {
            super(WHOLE);
            this.name = name;
            this.accepted = accepted;
            this.values = values;
            this.shown = shown;
        }

        boolean isTrueAt(long[] levels) {
            long level = name >= 0 && name < levels.length ? levels[name] : NO_VALUE;
            for (int i = 0; i < values.length; i++) {
                if ((accepted & outcome(level, values[i])) != 0) {
                    return true;
                }
            }
            return false;
        }

        private static int outcome(long level, long compared) {
            if (level == NO_VALUE) {
                return LACKING;
            }
            if (level == compared) {
                return SAME;
            }
            return level < compared ? LESS : GREATER;
        }

        void show(StringBuilder line) {
            line.append(shown);
        }
    }

    private static final class Condition {
        private final Node root;
        private final ArrayList<Test> tests;
        private final String shown;

        Condition(Node root, ArrayList<Test> tests, String shown) {
            this.root = root;
            this.tests = tests;
            this.shown = shown;
        }
    }

    /** Reads a text from its beginning. If it is ILL, the reader stays at that place, and what it reads is null or none. */
    private static final class Reader {
        private final String text;
        private final Name[] names;
        private final ArrayList<Test> tests = new ArrayList<>();
        private final StringBuilder line = new StringBuilder();
        private int at = 0;
        private int open = 0;
        private int testCount = 0;

        Reader(String text, Name[] names) {
            this.text = text;
            this.names = names;
        }

        Condition readWhole() {
            Node root = readJoined(Node.OR);
            if (root == null) {
                return null;
            }
            skipBlanks();
            if (at < text.length()) {
                return null;
            }
            line.setLength(0);
            root.show(line);
            return new Condition(root, tests, line.toString());
        }

        private Node readJoined(int strength) {
            boolean isOr = strength == Node.OR;
            Node joined = isOr ? readJoined(Node.AND) : readTest();
            for (int i = 0; i < MAX_TEXT && joined != null && takesWord(isOr ? "or" : "and"); i++) {
                Node second = isOr ? readJoined(Node.AND) : readTest();
                joined = second == null ? null : new Join(strength, joined, second);
            }
            return joined;
        }

        private Node readTest() {
            skipBlanks();
            String word = wordHere();
            boolean isNot = word.equals("not");
            if (isNot || characterHere() == '(') {
                return open < MAX_OPEN ? readOpened(isNot) : null;
            }
            boolean isConstant = word.equals("true") || word.equals("false");
            int name = numberOf(names, word);
            if (testCount >= MAX_TESTS || !isConstant && name == NONE) {
                return null;
            }
            testCount++;
            at += word.length();
            return isConstant ? new Constant(word.equals("true")) : readComparison(name);
        }

        private Node readOpened(boolean isNot) {
            at += isNot ? "not".length() : 1;
            open++;
            Node inner = isNot ? readTest() : readJoined(Node.OR);
            open--;
            if (inner == null) {
                return null;
            }
            if (isNot) {
                return new Negation(inner);
            }
            return takesSign(')') ? inner : null;
        }

        private Node readComparison(int name) {
            Name owner = name >= 0 && name < names.length ? names[name] : null;
            if (owner == null) {
                return null;
            }
            line.setLength(0);
            line.append(owner.spelling).append(' ');
            boolean isList = takesWord("in");
            int accepted = isList ? Test.SAME : readOperator();
            if (accepted == NONE) {
                return null;
            }
            if (isList) {
                line.append("in");
            }
            line.append(' ');
            long[] values = isList ? readList(owner) : readSingle(owner);
            if (values == null) {
                return null;
            }
            Test test = new Test(name, accepted, values, line.toString());
            tests.add(test);
            return test;
        }

        /** What the operator accepts; NONE if there is none. */
        private int readOperator() {
            char sign = characterHere();
            if (sign != '=' && sign != '!' && sign != '<' && sign != '>') {
                return NONE;
            }
            at++;
            line.append(sign);
            boolean isDouble = characterHere() == '=';
            if (isDouble) {
                at++;
                line.append('=');
            }
            if (!isDouble && (sign == '=' || sign == '!')) {
                return NONE;
            }
            if (sign == '=') {
                return Test.SAME;
            }
            if (sign == '!') {
                return Test.LESS | Test.GREATER | Test.LACKING;
            }
            int strict = sign == '<' ? Test.LESS : Test.GREATER;
            return isDouble ? strict | Test.SAME : strict;
        }

        private long[] readSingle(Name owner) {
            long level = readValue(owner);
            if (level == NO_VALUE) {
                return null;
            }
            long[] values = new long[1];
            values[0] = level;
            return values;
        }

        private long[] readList(Name owner) {
            if (!takesSign('[')) {
                return null;
            }
            line.append('[');
            long[] values = new long[MAX_LIST];
            for (int i = 0; i < MAX_LIST; i++) {
                values[i] = readValue(owner);
                if (values[i] == NO_VALUE) {
                    return null;
                }
                if (takesSign(']')) {
                    line.append(']');
                    return Arrays.copyOf(values, i + 1);
                }
                if (!takesSign(',')) {
                    return null;
                }
                line.append(", ");
            }
            // Whatever comes behind this comma can only be a VALUE too many, or none at all.
            skipBlanks();
            return null;
        }

        /** The level of a VALUE between two quotes; NO_VALUE if there is none of the name's KIND. */
        private long readValue(Name owner) {
            skipBlanks();
            if (characterHere() != '\'') {
                return NO_VALUE;
            }
            int end = at + 1;
            while (end < text.length() && text.charAt(end) != '\'') {
                end++;
            }
            if (end >= text.length()) {
                at = text.length();
                return NO_VALUE;
            }
            long level = owner.levelOf(text, at + 1, end);
            if (level == NO_VALUE) {
                return NO_VALUE;
            }
            line.append(text.substring(at, end + 1));
            at = end + 1;
            return level;
        }

        private void skipBlanks() {
            while (at < text.length() && text.charAt(at) == ' ') {
                at++;
            }
        }

        /** The character that comes next; one that no text has, if the text is at its end. */
        private char characterHere() {
            return at < text.length() ? text.charAt(at) : 0;
        }

        private String wordHere() {
            int end = at;
            while (end < text.length() && isLetter(text.charAt(end))) {
                end++;
            }
            return text.substring(at, end);
        }

        private boolean takesWord(String word) {
            skipBlanks();
            if (!wordHere().equals(word)) {
                return false;
            }
            at += word.length();
            return true;
        }

        private boolean takesSign(char sign) {
            skipBlanks();
            if (characterHere() != sign) {
                return false;
            }
            at++;
            return true;
        }
    }

    /** The SAMPLES of all names for a set of conditions, and the CHOICES of them one after the other. */
    private static final class Choices {
        /** A VALUE in a text takes two quotes, a character, and one sign at least before it. */
        private static final int MAX_VALUES = MAX_CONDITIONS * (MAX_TEXT / 4) + MAX_NAMES * MAX_KNOWN;

        /** The VALUES of the first name upwards, then those of the next one, and so on. */
        private final long[] values = new long[MAX_VALUES];
        private int used = 0;
        private final int[] starts = new int[MAX_NAMES];
        private final int[] samples = new int[MAX_NAMES];
        private final int[] picks = new int[MAX_NAMES];
        private final long[] levels = new long[MAX_NAMES];
        private int count = 0;

        /** Goes to the first CHOICE for a set of conditions; false if they are TOO MANY. */
        boolean layOut(Name[] names, Condition[] conditions, int set) {
            used = 0;
            count = 1;
            for (int n = 0; n < MAX_NAMES; n++) {
                starts[n] = used;
                for (int c = 0; c < conditions.length; c++) {
                    if ((set >> c & 1) == 1 && conditions[c] != null) {
                        addTested(conditions[c].tests, n);
                    }
                }
                int tested = used - starts[n];
                if (tested > 0 && n < names.length && names[n] != null) {
                    addKnown(names[n], n);
                }
                samples[n] = tested > 0 ? 2 * (used - starts[n]) + 2 : 1;
                picks[n] = 0;
                levels[n] = NO_VALUE;
                count = Math.min(count * samples[n], MAX_CHOICES + 1);
            }
            return count <= MAX_CHOICES;
        }

        private void addTested(ArrayList<Test> tests, int n) {
            for (int t = 0; t < tests.size(); t++) {
                Test test = tests.get(t);
                if (test.name == n) {
                    for (int i = 0; i < test.values.length; i++) {
                        add(test.values[i], n);
                    }
                }
            }
        }

        private void addKnown(Name owner, int n) {
            for (int i = 0; i < owner.knownCount; i++) {
                add(owner.known[i], n);
            }
        }

        private void add(long level, int n) {
            int spot = starts[n];
            while (spot < used && values[spot] < level) {
                spot++;
            }
            boolean isThere = spot < used && values[spot] == level;
            if (isThere || used >= MAX_VALUES) {
                return;
            }
            System.arraycopy(values, spot, values, spot + 1, used - spot);
            values[spot] = level;
            used++;
        }

        void advance() {
            boolean carry = true;
            for (int n = MAX_NAMES - 1; n >= 0 && carry; n--) {
                picks[n]++;
                carry = picks[n] >= samples[n];
                if (carry) {
                    picks[n] = 0;
                }
                levels[n] = levelOfPick(n);
            }
        }

        private long levelOfPick(int n) {
            int pick = picks[n];
            int spot = starts[n] + Math.max(pick / 2 - 1, 0);
            if (pick <= 0 || spot >= used) {
                return NO_VALUE;
            }
            // An odd pick is the GAP above a VALUE, but for the first GAP, which has none below it.
            return pick == 1 ? values[spot] - 1 : values[spot] + pick % 2;
        }

        /** The bits of those conditions of a set that are true for the CHOICE at which it is. */
        int truths(Condition[] conditions, int set) {
            int bits = 0;
            for (int c = 0; c < conditions.length; c++) {
                if ((set >> c & 1) == 1 && conditions[c] != null && conditions[c].root.isTrueAt(levels)) {
                    bits |= 1 << c;
                }
            }
            return bits;
        }
    }

    /** The CLASSES of a set of conditions, kept until the next ones. */
    private static final class Parting {
        private int count = 0;
        private final int[] truths = new int[MAX_CLASSES];
        private final int[] sizes = new int[MAX_CLASSES];
        /** The numbers of the first CHOICES, which tell the picks of all names at once. */
        private final int[] firsts = new int[MAX_CLASSES];
        /** For each set of true conditions its class, counted from 1 on; 0 if it has none. */
        private final int[] classOfTruths = new int[MAX_CLASSES];
        private final int[] samples = new int[MAX_NAMES];

        void part(Choices choices, Condition[] conditions, int set) {
            count = 0;
            Arrays.fill(classOfTruths, 0);
            System.arraycopy(choices.samples, 0, samples, 0, MAX_NAMES);
            for (int i = 0; i < choices.count; i++) {
                countIn(choices.truths(conditions, set), i);
                choices.advance();
            }
        }

        private void countIn(int bits, int choice) {
            if (bits < 0 || bits >= MAX_CLASSES) {
                return;
            }
            if (classOfTruths[bits] == 0 && count < MAX_CLASSES) {
                truths[count] = bits;
                sizes[count] = 0;
                firsts[count] = choice;
                count++;
                classOfTruths[bits] = count;
            }
            int k = classOfTruths[bits] - 1;
            if (has(k)) {
                sizes[k]++;
            }
        }

        boolean has(int k) {
            return k >= 0 && k < count;
        }

        /** Which SAMPLE of a name stands in the first CHOICE of a class. */
        int firstPick(int k, int name) {
            if (!has(k) || name < 0 || name >= MAX_NAMES) {
                return NONE;
            }
            int rest = firsts[k];
            for (int n = MAX_NAMES - 1; n > name; n--) {
                rest = samples[n] > 0 ? rest / samples[n] : 0;
            }
            return samples[name] > 0 ? rest % samples[name] : 0;
        }
    }
}
