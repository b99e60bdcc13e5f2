/** Promises 7 and 8: what the ENVIRONMENT gives, and what is true in it. */
public final class EnvironmentTest {
    private static final String[] OPERATORS = {"==", "!=", "<", "<=", ">", ">="};

    public static void main(String[] args) {
        given();
        wrong();
        without();
        ordered(0, ".", "..", ".0", ".a", ".z", "0", "00", "0a", "10", "2", "9", "a", "a.", "a0", "aa", "ab", "abcdefgh",
                "az", "b", "yzzzzzzz", "z", "zzzzzzzz");
        ordered(2, "0", "0.0.1", "0.0.10", "0.1", "0.1.1", "0.10", "0.999.999", "1", "1.9", "1.10", "2", "10", "999",
                "999.999.999");
        sameVersions();
        lists();
        joined();
        Check.end();
    }

    private static void given() {
        Check check = Check.withNames();
        int c = check.condition("a=='x'");
        Check.due("at first", check.x.holds(c), false);
        check.give("x", 1);
        Check.due("another name", check.x.holds(c), false);
        check.give("x", 0);
        Check.due("given", check.x.holds(c), true);
        check.give("y", 0);
        Check.due("given anew", check.x.holds(c), false);
        check.give("x", 0);
        check.give("", 0);
        Check.due("taken back", check.x.holds(c), false);
        for (int none : new int[] {-1, 1, 8, 32, Integer.MAX_VALUE, Integer.MIN_VALUE}) {
            Check.due("holds " + none, check.x.holds(none), false);
        }
    }

    private static void wrong() {
        Check check = Check.withNames();
        int c = check.condition("a=='x' and v=='1'");
        check.give("x", 0);
        check.give("1.0", 2);
        for (String text : new String[] {"X", " ", "x ", "abcdefghi", "a-b", "'x'"}) {
            check.give(text, 0, Check.ILLEGAL_ARGUMENT);
        }
        for (String text : new String[] {"x", " ", "1.", "01", "1000", "1.2.3.4", "'1'"}) {
            check.give(text, 2, Check.ILLEGAL_ARGUMENT);
        }
        for (int name : new int[] {-1, 3, 6, Integer.MAX_VALUE, Integer.MIN_VALUE}) {
            check.give("", name, Check.ILLEGAL_ARGUMENT);
            check.give("1", name, Check.ILLEGAL_ARGUMENT);
        }
        Check.due("what was given stays", check.x.holds(c), true);
    }

    private static void without() {
        for (String operator : OPERATORS) {
            Check check = Check.withNames();
            int plain = check.condition("a" + operator + "'m'");
            int negated = check.condition("not v" + operator + "'1'");
            Check.due(operator + " without a value", check.x.holds(plain), operator.equals("!="));
            Check.due("not " + operator + " without a value", check.x.holds(negated), !operator.equals("!="));
        }
        Check check = Check.withNames();
        Check.due("in without a value", check.x.holds(check.condition("a in ['x','y']")), false);
        Check.due("not in without a value", check.x.holds(check.condition("not a in ['x','y']")), true);
    }

    /** Every two of some VALUES, which are told from below upwards, by every operator. */
    private static void ordered(int name, String... upwards) {
        for (int i = 0; i < upwards.length; i++) {
            for (int k = 0; k < upwards.length; k++) {
                compared(name, upwards[i], upwards[k], Integer.compare(i, k));
            }
        }
    }

    private static void compared(int name, String given, String tested, int order) {
        boolean[] due = {order == 0, order != 0, order < 0, order <= 0, order > 0, order >= 0};
        Check check = Check.withNames();
        check.give(given, name);
        for (int i = 0; i < OPERATORS.length; i++) {
            int c = check.condition((name == 0 ? "a" : "v") + OPERATORS[i] + "'" + tested + "'");
            Check.due(given + " " + OPERATORS[i] + " " + tested, check.x.holds(c), due[i]);
        }
    }

    private static void sameVersions() {
        compared(2, "1", "1.0", 0);
        compared(2, "1.0.0", "1", 0);
        compared(2, "0.0", "0", 0);
        compared(2, "2.3.0", "2.3", 0);
        compared(2, "2.3.0", "2.30", -1);
        compared(0, "1", "1.0", -1);
    }

    private static void lists() {
        Check check = Check.withNames();
        int six = check.condition("v in ['1','2','3','4.0','5','6.0.1']");
        String[] texts = {"1.0", "2", "3.0.0", "4", "5", "6.0.1", "0", "1.5", "6", "7"};
        for (int i = 0; i < texts.length; i++) {
            check.give(texts[i], 2);
            Check.due(texts[i] + " in the list", check.x.holds(six), i < 6);
        }
    }

    private static void joined() {
        String[] truths = {"false", "true"};
        for (int bits = 0; bits < 8; bits++) {
            boolean p = (bits & 1) != 0;
            boolean q = (bits & 2) != 0;
            boolean r = (bits & 4) != 0;
            String[] t = {truths[bits & 1], truths[bits >> 1 & 1], truths[bits >> 2 & 1]};
            Check check = new Check();
            holds(check, t[0] + " or " + t[1] + " and " + t[2], p || q && r);
            holds(check, t[0] + " and " + t[1] + " or " + t[2], p && q || r);
            holds(check, "(" + t[0] + " or " + t[1] + ") and " + t[2], (p || q) && r);
            holds(check, "not " + t[0] + " and " + t[1], !p && q);
            holds(check, "not (" + t[0] + " and " + t[1] + ")", !(p && q));
            holds(check, "not " + t[0] + " or " + t[1], !p || q);
            holds(check, "not not " + t[0], p);
            holds(check, t[0] + " or " + t[1] + " or " + t[2], p || q || r);
        }
    }

    private static void holds(Check check, String text, boolean want) {
        Check.due(text, check.x.holds(check.condition(text)), want);
    }
}
