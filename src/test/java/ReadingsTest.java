/** The places where the document can be read in two ways, and the way in which it is read here; README.md tells why. */
public final class ReadingsTest {
    private static final String[] SIX = {"a", "b", "c", "d", "e", "f"};

    public static void main(String[] args) {
        nameIsWrongAndFull();
        valueIsWrongAndFull();
        conditionIsIllAndFull();
        valueWithoutSecondQuote();
        seventhValue();
        sampleOfALaterName();
        sampleOfTheFirstName();
        sampleBehindTooMany();
        mostTests();
        Check.end();
    }

    /** A text or KIND that is wrong is told before there being 6 names. */
    private static void nameIsWrongAndFull() {
        Check check = new Check();
        for (int i = 0; i < 6; i++) {
            check.name(SIX[i], 0, i);
        }
        check.name("", 0, Check.ILLEGAL_ARGUMENT);
        check.name("abcdefghi", 0, Check.ILLEGAL_ARGUMENT);
        check.name("not", 1, Check.ILLEGAL_ARGUMENT);
        check.name("a", 0, Check.ILLEGAL_ARGUMENT);
        check.name("f", 1, Check.ILLEGAL_ARGUMENT);
        check.name("g", 2, Check.ILLEGAL_ARGUMENT);
        check.name("g", -1, Check.ILLEGAL_ARGUMENT);
        check.name("g", 0, Check.ILLEGAL_STATE);
        check.name("g", 1, Check.ILLEGAL_STATE);
    }

    /** A VALUE that is wrong is told before there being 6. */
    private static void valueIsWrongAndFull() {
        Check check = Check.withNames();
        for (int i = 1; i <= 6; i++) {
            check.value(String.valueOf(i), 2, i);
        }
        check.value("", 2, Check.ILLEGAL_ARGUMENT);
        check.value("x", 2, Check.ILLEGAL_ARGUMENT);
        check.value("01", 2, Check.ILLEGAL_ARGUMENT);
        check.value("1", 2, Check.ILLEGAL_ARGUMENT);
        check.value("6.0", 2, Check.ILLEGAL_ARGUMENT);
        check.value("7", 3, Check.ILLEGAL_ARGUMENT);
        check.value("7", -1, Check.ILLEGAL_ARGUMENT);
        check.value("7", 2, Check.ILLEGAL_STATE);
        check.value("7", 1, 1);
    }

    /** That a text is ILL is told, with its place, before there being 8 conditions. */
    private static void conditionIsIllAndFull() {
        Check check = Check.withNames();
        for (int i = 0; i < 8; i++) {
            check.condition("a<'" + i + "'", i);
        }
        check.ill("", 0);
        check.ill("a<'8", 4);
        check.condition("a<'8'", Check.ILLEGAL_STATE);
        Check.due("the text was not ill", check.x.place(), -1);
        check.ill("a<'8' or", 8);
        check.ill("a<'X'", 2);
        check.value("X", 0, Check.ILLEGAL_ARGUMENT);
        check.name("a", 0, Check.ILLEGAL_ARGUMENT);
        Check.due("the latest condition() stays so", check.x.place(), 2);
        check.condition("true", Check.ILLEGAL_STATE);
        Check.due("the text was not ill", check.x.place(), -1);
        Check.due("no ninth condition", check.x.printed(8, 0), 0);
        Check.due("the eighth stays", check.printed(7), "a < '7'");
    }

    /** It ends too early, whatever stands behind its first quote; with a second quote it is judged as it stands. */
    private static void valueWithoutSecondQuote() {
        Check check = Check.withNames();
        for (String written : new String[] {"", "x", "X", "abcdefgh", "abcdefghi", "x y", "x ", " ", "x]", "x or true",
            "x\"", "1..2", "01"}) {
            for (String before : new String[] {"a=='", "v <  '", "a in ['", "v in['1','", "true and(a!='"}) {
                check.ill(before + written, before.length() + written.length());
            }
        }
        check.ill("a=='X'", 3);
        check.ill("a=='x or b=='", 3);
        check.ill("a=='x' or b=='", 14);
        check.ill("a=='x''", 6);
        check.ill("a in['x','", 10);
        check.ill("a in['x,'", 5);
        String full = "a=='" + "x".repeat(156);
        check.ill(full, 160);
    }

    /** The comma before it may stand; it is one too many from its first quote on, ended or not. */
    private static void seventhValue() {
        Check check = Check.withNames();
        String six = "a in['1','2','3','4','5','6'";
        for (String seventh : new String[] {"'7']", "'7'", "'7", "'", "''", "'X']", "'X", "'1']", "'abcdefghi", "7", "]",
            ",", "x", "[", ""}) {
            check.ill(six + "," + seventh, six.length() + 1);
            check.ill(six + " ,  " + seventh, six.length() + 4);
        }
        check.ill(six, six.length());
        check.ill(six + " '7']", six.length() + 1);
        check.condition(six + "]and " + six + " ] ", 0);
    }

    /** It was in no test of that set: none is its only SAMPLE. A number that is no name's has none. */
    private static void sampleOfALaterName() {
        Check check = new Check();
        check.name("a", 0, 0);
        check.condition("a=='x'", 0);
        check.x.classes(1);
        check.name("a", 0, Check.ILLEGAL_ARGUMENT);
        Check.due("no such name", check.x.sample(1, 1), -1);
        check.name("b", 0, 1);
        check.value("y", 1, 1);
        check.condition("b=='x'", 1);
        check.give("x", 1);
        for (int k = 0; k < 2; k++) {
            Check.due("a in " + k, check.x.sample(k, 0), 2 * k);
            Check.due("b in " + k, check.x.sample(k, 1), 0);
            Check.due("no third name in " + k, check.x.sample(k, 2), -1);
        }
        Check.due("b, but no such class", check.x.sample(2, 1), -1);
        Check.due("classes with b", check.x.classes(2), 2);
        Check.due("b now", check.x.sample(1, 1), 2);
        Check.due("a now", check.x.sample(1, 0), 0);
    }

    /** A set of no conditions makes a class before there is a name: each name that comes has none in it. */
    private static void sampleOfTheFirstName() {
        Check check = new Check();
        Check.due("one class", check.x.classes(0), 1);
        for (int i = 0; i < 6; i++) {
            Check.due("no name " + i + " yet", check.x.sample(0, i), -1);
            check.name(SIX[i], i % 2, i);
            Check.due("name " + i, check.x.sample(0, i), 0);
        }
        Check.due("no seventh name", check.x.sample(0, 6), -1);
        Check.due("one choice, as it was", check.x.many(0), 1);
    }

    /** A classes() that is NONE leaves those before it: neither later names nor later KNOWN VALUES move their SAMPLES. */
    private static void sampleBehindTooMany() {
        Check check = new Check();
        check.name("a", 0, 0);
        check.name("b", 0, 1);
        check.condition("b=='x' and not a=='x'", 0);
        Check.due("two classes", check.x.classes(1), 2);
        for (int i = 2; i < 6; i++) {
            check.name(SIX[i], 0, i);
        }
        check.value("c", 1, 1);
        String six = " in['1','2','3','4','5','6']";
        check.condition("c" + six + "and d" + six + "and e" + six + "and f" + six, 1);
        Check.due("too many", check.x.classes(2), -1);
        int[] samples = {0, 2, 0, 0, 0, 0};
        for (int i = 0; i < 6; i++) {
            Check.due("name " + i + " in the first class", check.x.sample(0, i), 0);
            Check.due("name " + i + " in the second class", check.x.sample(1, i), samples[i]);
        }
        Check.due("a condition that came later", check.x.inClass(1, 1), false);
        Check.due("choices of the first class", check.x.many(0), 13);
        Check.due("choices of the second class", check.x.many(1), 3);
        Check.due("two classes again", check.x.classes(1), 2);
        Check.due("c, which is KNOWN, lies below x", check.x.sample(1, 1), 4);
    }

    /**
     * A TEST takes six characters with what parts it from an or or and beside it, and each of these two or three: 20 TESTS
     * take 156 characters, 21 would take 164. No text is ILL by a TEST too many; the most that one can have are all read.
     */
    private static void mostTests() {
        Check check = Check.withNames();
        String constants = "true or" + "(true)or".repeat(18) + " true";
        Check.due("length", constants.length(), 156);
        int c = check.condition(constants);
        Check.due("printed", check.printed(c), "true" + " or true".repeat(19));
        String last = "false or" + "(false)or".repeat(16) + " true";
        int d = check.condition(last);
        Check.due("the last is read", check.x.holds(d), true);
        String comparisons = "a<'1'" + "or a<'1'".repeat(18) + "or a>'8'";
        int e = check.condition(comparisons);
        check.give("9", 0);
        Check.due("the last is read", check.x.holds(e), true);
        check.type(constants + " or ");
        Check.due("no room for one more", check.x.type('t'), false);
        check.ill("", 160);
    }
}
