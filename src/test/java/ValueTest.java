/** Promise 4: which texts are VALUES of which KIND, how many are KNOWN, and what is thrown. */
public final class ValueTest {
    private static final String[] NO_TEXTS = {"", " ", "x ", " x", "abcdefghi", "X", "a-b", "a_b", "'x'", "a,b", "`", "{",
        "/", ":"};
    private static final String[] TEXTS = {"x", "abcdefgh", "0", "9", ".", "a.9", "........", "z", "not", "12345678"};
    private static final String[] NO_VERSIONS = {"", ".", "1.", ".1", "1..2", "1.2.3.4", "1.2.3.", "1000", "1.1000", "00",
        "01", "1.00", "1.01", "1.2.03", "000", "a", "1.a", "1 ", " 1", "1,2", "-1", "+1", "1/2", "1:2", "0123"};
    private static final String[] VERSIONS = {"0", "9", "10", "999", "0.0.1", "0.1", "999.999.999", "1.0.2", "100.20"};

    public static void main(String[] args) {
        kinds();
        same();
        full();
        knownByName();
        Check.end();
    }

    private static void kinds() {
        for (String text : NO_TEXTS) {
            Check.withNames().value(text, 0, Check.ILLEGAL_ARGUMENT);
        }
        for (String text : TEXTS) {
            Check.withNames().value(text, 1, 1);
        }
        for (String text : NO_VERSIONS) {
            Check.withNames().value(text, 2, Check.ILLEGAL_ARGUMENT);
        }
        for (String text : VERSIONS) {
            Check.withNames().value(text, 2, 1);
        }
        for (int name : new int[] {-1, 3, 6, 7, Integer.MAX_VALUE, Integer.MIN_VALUE}) {
            Check.withNames().value("1", name, Check.ILLEGAL_ARGUMENT);
        }
    }

    private static void same() {
        Check check = Check.withNames();
        check.value("1", 2, 1);
        check.value("1", 2, Check.ILLEGAL_ARGUMENT);
        check.value("1.0", 2, Check.ILLEGAL_ARGUMENT);
        check.value("1.0.0", 2, Check.ILLEGAL_ARGUMENT);
        check.value("1.0.1", 2, 2);
        check.value("0.1", 2, 3);
        check.value("0.1.0", 2, Check.ILLEGAL_ARGUMENT);
        check.value("0.0.1", 2, 4);
        check.value("0", 2, 5);
        check.value("0.0", 2, Check.ILLEGAL_ARGUMENT);
        check.value("1", 0, 1);
        check.value("1.0", 0, 2);
        check.value("1", 0, Check.ILLEGAL_ARGUMENT);
        check.value("1", 1, 1);
    }

    private static void full() {
        Check check = Check.withNames();
        for (int i = 0; i < 6; i++) {
            check.value("x" + i, 0, i + 1);
            check.value("1." + i, 2, i + 1);
        }
        check.value("y", 0, Check.ILLEGAL_STATE);
        check.value("x0", 0, Check.ILLEGAL_ARGUMENT);
        check.value("Y", 0, Check.ILLEGAL_ARGUMENT);
        check.value("", 0, Check.ILLEGAL_ARGUMENT);
        check.value("2", 2, Check.ILLEGAL_STATE);
        check.value("1.5.0", 2, Check.ILLEGAL_ARGUMENT);
        check.value("y", 1, 1);
        int a = check.condition("a<'x'");
        Check.due("classes", check.x.classes(1 << a), 2);
        Check.due("none, and all but the gaps below", check.x.many(0), 15);
        Check.due("below x", check.x.many(1), 1);
    }

    private static void knownByName() {
        Check check = Check.withNames();
        int c = check.condition("a=='m'");
        Check.due("classes", check.x.classes(1 << c), 2);
        Check.due("none and gaps", check.x.many(0), 3);
        check.value("m", 0, 1);
        check.x.classes(1 << c);
        Check.due("the value was there already", check.x.many(0), 3);
        check.value("n", 0, 2);
        check.value("q", 1, 1);
        check.x.classes(1 << c);
        Check.due("one value and one gap more", check.x.many(0), 5);
    }
}
