import java.util.ArrayList;
import java.util.LinkedHashMap;
import java.util.List;
import java.util.Map;
import java.util.TreeSet;

/** The document once more, by other means: words by words, sets and strings. It is what OracleTest compares with. */
final class Model {
    static final class Ill extends RuntimeException {
        private static final long serialVersionUID = 1L;
        final int place;

        Ill(int place) {
            super(null, null, false, false);
            this.place = place;
        }
    }

    /** A truth of what each name has: null, or a VALUE, or a GAP. */
    interface Truth {
        boolean of(List<Spot> spots);
    }

    /** A VALUE, or a GAP (below it: -1, above it: 1). */
    record Spot(String text, int side) {
    }

    record Tree(String operator, List<Tree> parts, String leaf, Truth truth) {
        boolean of(List<Spot> spots) {
            switch (operator) {
                case "or":
                    return parts.get(0).of(spots) | parts.get(1).of(spots);
                case "and":
                    return parts.get(0).of(spots) & parts.get(1).of(spots);
                case "not":
                    return !parts.get(0).of(spots);
                default:
                    return truth.of(spots);
            }
        }

        String printed() {
            switch (operator) {
                case "or":
                    return parts.get(0).printed() + " or " + parts.get(1).inBrackets("or");
                case "and":
                    return parts.get(0).inBrackets("or") + " and " + parts.get(1).inBrackets("or and");
                case "not":
                    return "not " + parts.get(0).inBrackets("or and");
                default:
                    return leaf;
            }
        }

        String inBrackets(String operators) {
            return List.of(operators.split(" ")).contains(operator) ? "(" + printed() + ")" : printed();
        }
    }

    final List<String> names = new ArrayList<>();
    final List<Integer> kinds = new ArrayList<>();
    final List<List<String>> known = new ArrayList<>();
    final List<String> given = new ArrayList<>();
    final List<Tree> conditions = new ArrayList<>();
    final List<Map<Integer, List<String>>> valuesOf = new ArrayList<>();
    int place = -1;
    int partedSet = 0;
    Map<Integer, List<List<Integer>>> parted = null;

    static boolean isValue(int kind, String text) {
        return kind == 0 ? text.matches("[a-z0-9.]{1,8}")
                : text.matches("(0|[1-9][0-9]{0,2})(\\.(0|[1-9][0-9]{0,2})){0,2}");
    }

    static int compare(int kind, String a, String b) {
        if (kind == 0) {
            return Integer.signum(a.compareTo(b));
        }
        String[] left = (a + ".0.0").split("\\.");
        String[] right = (b + ".0.0").split("\\.");
        for (int i = 0; i < 3; i++) {
            int order = Integer.compare(Integer.parseInt(left[i]), Integer.parseInt(right[i]));
            if (order != 0) {
                return order;
            }
        }
        return 0;
    }

    int name(String text, int kind) {
        boolean isWord = text.matches("[a-z]{1,8}") && !text.matches("or|and|not|in|true|false");
        if (!isWord || names.contains(text) || kind != 0 && kind != 1) {
            throw new IllegalArgumentException();
        }
        if (names.size() == 6) {
            throw new IllegalStateException();
        }
        names.add(text);
        kinds.add(kind);
        known.add(new ArrayList<>());
        given.add(null);
        return names.size() - 1;
    }

    int value(String text, int name) {
        if (name < 0 || name >= names.size() || !isValue(kinds.get(name), text)) {
            throw new IllegalArgumentException();
        }
        for (String other : known.get(name)) {
            if (compare(kinds.get(name), other, text) == 0) {
                throw new IllegalArgumentException();
            }
        }
        if (known.get(name).size() == 6) {
            throw new IllegalStateException();
        }
        known.get(name).add(text);
        return known.get(name).size();
    }

    int give(String text, int name) {
        if (name < 0 || name >= names.size() || !text.isEmpty() && !isValue(kinds.get(name), text)) {
            throw new IllegalArgumentException();
        }
        given.set(name, text.isEmpty() ? null : text);
        return 0;
    }

    int condition(String text) {
        Map<Integer, List<String>> values = new LinkedHashMap<>();
        Tree tree;
        try {
            tree = new Parser(text, values).whole();
        } catch (Ill ill) {
            place = ill.place;
            throw new IllegalArgumentException();
        }
        place = -1;
        if (conditions.size() == 8) {
            throw new IllegalStateException();
        }
        conditions.add(tree);
        valuesOf.add(values);
        return conditions.size() - 1;
    }

    /** States of a machine that reads a text a token at a time, with a stack of what is open. */
    private final class Parser {
        private final String text;
        private final Map<Integer, List<String>> values;
        private final List<String> open = new ArrayList<>();
        private final List<Tree> done = new ArrayList<>();
        private int at = 0;
        private int tests = 0;

        Parser(String text, Map<Integer, List<String>> values) {
            this.text = text;
            this.values = values;
        }

        Tree whole() {
            boolean wantsTest = true;
            while (true) {
                blanks();
                if (at == text.length()) {
                    break;
                }
                wantsTest = wantsTest ? begin() : go();
            }
            while (!wantsTest && !open.isEmpty() && !open.get(open.size() - 1).equals("(")) {
                reduce();
            }
            if (wantsTest || !open.isEmpty()) {
                throw new Ill(text.length());
            }
            return done.get(0);
        }

        private boolean begin() {
            String word = word();
            if (word.equals("not") || text.charAt(at) == '(') {
                long nots = open.stream().filter(o -> o.equals("not") || o.equals("(")).count();
                if (nots == 12) {
                    throw new Ill(at);
                }
                open.add(word.equals("not") ? "not" : "(");
                at += Math.max(1, word.length());
                return true;
            }
            if (!word.equals("true") && !word.equals("false") && !names.contains(word) || tests == 40) {
                throw new Ill(at);
            }
            tests++;
            at += word.length();
            if (names.contains(word)) {
                done.add(comparison(names.indexOf(word)));
            } else {
                boolean truth = word.equals("true");
                done.add(new Tree("", List.of(), word, spots -> truth));
            }
            closeNots();
            return false;
        }

        private void closeNots() {
            while (!open.isEmpty() && open.get(open.size() - 1).equals("not")) {
                reduce();
            }
        }

        private void reduce() {
            String operator = open.remove(open.size() - 1);
            Tree last = done.remove(done.size() - 1);
            done.add(operator.equals("not") ? new Tree("not", List.of(last), null, null)
                    : new Tree(operator, List.of(done.remove(done.size() - 1), last), null, null));
        }

        private boolean go() {
            String word = word();
            if (text.charAt(at) == ')') {
                while (!open.isEmpty() && !open.get(open.size() - 1).equals("(")) {
                    reduce();
                }
                if (open.isEmpty()) {
                    throw new Ill(at);
                }
                open.remove(open.size() - 1);
                closeNots();
                at++;
                return false;
            }
            if (!word.equals("and") && !word.equals("or")) {
                throw new Ill(at);
            }
            while (!open.isEmpty() && (open.get(open.size() - 1).equals("and")
                    || open.get(open.size() - 1).equals("or") && word.equals("or"))) {
                reduce();
            }
            open.add(word);
            at += word.length();
            return true;
        }

        private Tree comparison(int name) {
            blanks();
            String word = word();
            List<String> written = new ArrayList<>();
            String operator = word;
            if (word.equals("in")) {
                at += 2;
                sign('[');
                do {
                    blanks();
                    if (written.size() == 6) {
                        throw new Ill(at);
                    }
                    written.add(quoted(name));
                    blanks();
                } while (at < text.length() && text.charAt(at) == ',' && at++ >= 0);
                sign(']');
            } else {
                operator = operator();
                written.add(quoted(name));
            }
            values.computeIfAbsent(name, n -> new ArrayList<>()).addAll(written);
            String all = "'" + String.join("', '", written) + "'";
            String shown = names.get(name) + " " + operator + " " + (word.equals("in") ? "[" + all + "]" : all);
            String comparing = operator;
            return new Tree("", List.of(), shown, spots -> isTrue(kinds.get(name), comparing, spots.get(name), written));
        }

        private String operator() {
            String rest = text.substring(at) + "#";
            if (!rest.matches("[=!<>].*")) {
                throw new Ill(at);
            }
            String operator = rest.matches("[=!<>]=.*") ? rest.substring(0, 2) : rest.substring(0, 1);
            if (operator.equals("=") || operator.equals("!")) {
                throw new Ill(at + 1);
            }
            at += operator.length();
            return operator;
        }

        private String quoted(int name) {
            sign('\'');
            int end = text.indexOf('\'', at);
            if (end < 0) {
                throw new Ill(text.length());
            }
            String written = text.substring(at, end);
            if (!isValue(kinds.get(name), written)) {
                throw new Ill(at - 1);
            }
            at = end + 1;
            return written;
        }

        private void sign(char sign) {
            blanks();
            if (at == text.length() || text.charAt(at) != sign) {
                throw new Ill(at);
            }
            at++;
        }

        private void blanks() {
            while (at < text.length() && text.charAt(at) == ' ') {
                at++;
            }
        }

        private String word() {
            return text.substring(at).replaceFirst("[^a-z].*$", "");
        }
    }

    private static boolean isTrue(int kind, String operator, Spot spot, List<String> written) {
        if (spot == null) {
            return operator.equals("!=");
        }
        if (operator.equals("in")) {
            return written.stream().anyMatch(w -> spot.side == 0 && compare(kind, spot.text, w) == 0);
        }
        int order = compare(kind, spot.text, written.get(0));
        order = order == 0 ? spot.side : order;
        switch (operator) {
            case "==":
                return order == 0;
            case "!=":
                return order != 0;
            case "<":
                return order < 0;
            case "<=":
                return order <= 0;
            case ">":
                return order > 0;
            default:
                return order >= 0;
        }
    }

    boolean holds(int condition) {
        if (condition < 0 || condition >= conditions.size()) {
            return false;
        }
        List<Spot> spots = new ArrayList<>();
        for (String value : given) {
            spots.add(value == null ? null : new Spot(value, 0));
        }
        return conditions.get(condition).of(spots);
    }

    private List<List<Spot>> samples(int set) {
        List<List<Spot>> samples = new ArrayList<>();
        for (int name = 0; name < names.size(); name++) {
            int kind = kinds.get(name);
            TreeSet<String> values = new TreeSet<>((a, b) -> compare(kind, a, b));
            for (int c = 0; c < conditions.size(); c++) {
                if ((set >> c & 1) == 1) {
                    values.addAll(valuesOf.get(c).getOrDefault(name, List.of()));
                }
            }
            if (!values.isEmpty()) {
                values.addAll(known.get(name));
            }
            List<Spot> spots = new ArrayList<>();
            spots.add(null);
            for (String value : values) {
                spots.add(new Spot(value, -1));
                spots.add(new Spot(value, 0));
            }
            if (!values.isEmpty()) {
                spots.add(new Spot(values.last(), 1));
            }
            samples.add(spots);
        }
        return samples;
    }

    /** The picks of all CHOICES, by the conditions of a set that they make true; null if they are TOO MANY. */
    private Map<Integer, List<List<Integer>>> parts(int set) {
        List<List<Spot>> samples = samples(set);
        long count = 1;
        for (List<Spot> spots : samples) {
            count *= spots.size();
        }
        if (count > 20000) {
            return null;
        }
        Map<Integer, List<List<Integer>>> parts = new LinkedHashMap<>();
        for (long i = 0; i < count; i++) {
            List<Integer> picks = new ArrayList<>();
            List<Spot> spots = new ArrayList<>();
            long weight = count;
            for (List<Spot> own : samples) {
                weight /= own.size();
                int pick = (int) (i / weight % own.size());
                picks.add(pick);
                spots.add(own.get(pick));
            }
            int truths = 0;
            for (int c = 0; c < conditions.size(); c++) {
                truths |= (set >> c & 1) == 1 && conditions.get(c).of(spots) ? 1 << c : 0;
            }
            parts.computeIfAbsent(truths, t -> new ArrayList<>()).add(picks);
        }
        return parts;
    }

    private boolean isCondition(int c) {
        return c >= 0 && c < conditions.size();
    }

    int ever(int c) {
        return pair(c, c, true);
    }

    int implies(int a, int b) {
        int counter = pair(a, b, false);
        return counter < 0 ? -1 : 1 - counter;
    }

    int apart(int a, int b) {
        int common = pair(a, b, true);
        return common < 0 ? -1 : 1 - common;
    }

    /** Whether some CHOICE makes a true, and b true or not. */
    private int pair(int a, int b, boolean second) {
        if (!isCondition(a) || !isCondition(b)) {
            return -1;
        }
        Map<Integer, List<List<Integer>>> parts = parts(1 << a | 1 << b);
        if (parts == null) {
            return -1;
        }
        return parts.keySet().stream().anyMatch(t -> (t >> a & 1) == 1 && (t >> b & 1) == 1 == second) ? 1 : 0;
    }

    int classes(int set) {
        Map<Integer, List<List<Integer>>> parts = parts(set);
        if (parts == null) {
            return -1;
        }
        parted = parts;
        return parts.size();
    }

    private boolean isClass(int k) {
        return parted != null && k >= 0 && k < parted.size();
    }

    int many(int k) {
        return isClass(k) ? new ArrayList<>(parted.values()).get(k).size() : -1;
    }

    boolean inClass(int k, int c) {
        return isClass(k) && isCondition(c) && (new ArrayList<>(parted.keySet()).get(k) >> c & 1) == 1;
    }

    int sample(int k, int name) {
        if (!isClass(k) || name < 0 || name >= names.size()) {
            return -1;
        }
        List<Integer> first = new ArrayList<>(parted.values()).get(k).get(0);
        return name < first.size() ? first.get(name) : 0;
    }

    int printed(int c, int i) {
        String line = isCondition(c) ? conditions.get(c).printed() : "";
        return i >= 0 && i < line.length() ? line.charAt(i) : 0;
    }
}
