/** The sentences of the document's Terms that set a bound: the last input that is taken, and the first that isn't. */
public final class TermsTest {
    private static final String[] WORDS = {"or", "and", "not", "in", "true", "false"};
    private static final String[] SIX = {"a", "b", "c", "d", "e", "f"};

    public static void main(String[] args) {
        calls();
        textLength();
        textCodes();
        textIsEmptied();
        atMostSixNames();
        lettersOfNames();
        kinds();
        wordsAreNoNames();
        textValues();
        versionValues();
        lackingNumbers();
        comparedValues();
        atMostSixKnown();
        noTwoTheSame();
        blanks();
        atMostTwelveOpen();
        openAtOnce();
        atMostSixInAList();
        illCharacters();
        illWords();
        illValues();
        endsTooEarly();
        gaps();
        gapsOfNeighbours();
        choices();
        Check.end();
    }

    /** 'An object is used for at most 512 calls': the last of them answers as the first ones do. */
    private static void calls() {
        Check check = new Check();
        check.name("a", 0, 0);
        check.condition("a in['x','z']", 0);
        int made = "a".length() + 1 + "a in['x','z']".length() + 1;
        for (int i = made; i < 510; i++) {
            Check.due("call " + (i + 1), i % 2 == 0 ? check.x.classes(1) : check.x.sample(1, 0), 2);
        }
        Check.due("call 511", check.x.many(0), 4);
        Check.due("call 512", check.x.many(1), 2);
    }

    /** 'TEXT takes at most 160 characters'. */
    private static void textLength() {
        Check check = new Check();
        check.type(" ".repeat(159));
        Check.due("the 160th", check.x.type(' '), true);
        Check.due("the 161st", check.x.type('t'), false);
        Check.due("and again", check.x.type(' '), false);
        check.ill("", 160);
        check.type("true" + " ".repeat(156));
        check.condition("", 0);
        check.type(" ".repeat(156) + "true");
        Check.due("a letter too many", check.x.type('s'), false);
        check.condition("", 1);
    }

    /** 'with codes 32 .. 126': what is refused leaves no trace. */
    private static void textCodes() {
        Check check = new Check();
        Check.due("31", check.x.type((char) 31), false);
        Check.due("32", check.x.type((char) 32), true);
        Check.due("126", check.x.type((char) 126), true);
        Check.due("127", check.x.type((char) 127), false);
        Check.due("32 + 256", check.x.type((char) 288), false);
        check.ill("", 1);
        Check.due("31", check.x.type((char) 31), false);
        check.ill("", 0);
    }

    /** 'a call that takes it empties it, in any case': each such call, done or refused in each way. */
    private static void textIsEmptied() {
        Check check = new Check();
        check.name("a", 0, 0);
        check.ill("", 0);
        check.name("a", 0, Check.ILLEGAL_ARGUMENT);
        check.ill("", 0);
        check.name("b", 2, Check.ILLEGAL_ARGUMENT);
        check.ill("", 0);
        for (int i = 1; i < 6; i++) {
            check.name(SIX[i], 0, i);
        }
        check.name("true", 0, Check.ILLEGAL_ARGUMENT);
        check.ill("", 0);
        check.name("g", 0, Check.ILLEGAL_STATE);
        check.ill("", 0);
        valueAndGiveEmpty(check);
        conditionEmpties(check);
    }

    private static void valueAndGiveEmpty(Check check) {
        for (int i = 1; i <= 6; i++) {
            check.value("x" + i, 0, i);
            check.ill("", 0);
        }
        check.value("x7", 0, Check.ILLEGAL_STATE);
        check.ill("", 0);
        check.value("x1", 0, Check.ILLEGAL_ARGUMENT);
        check.ill("", 0);
        check.value("x1", 6, Check.ILLEGAL_ARGUMENT);
        check.ill("", 0);
        check.give("x1", 6, Check.ILLEGAL_ARGUMENT);
        check.ill("", 0);
        check.give("X", 0, Check.ILLEGAL_ARGUMENT);
        check.ill("", 0);
        check.give("x1", 0);
        check.ill("", 0);
    }

    private static void conditionEmpties(Check check) {
        check.ill("true or", 7);
        check.ill("", 0);
        for (int i = 0; i < 8; i++) {
            check.condition("true", i);
            check.ill("", 0);
        }
        check.condition("true", Check.ILLEGAL_STATE);
        check.ill("", 0);
        check.ill("x", 0);
        check.ill("", 0);
    }

    /** 'NAMES, at most 6, numbered from 0'. */
    private static void atMostSixNames() {
        Check check = new Check();
        for (int i = 0; i < 6; i++) {
            check.ill(SIX[i] + "=='x'", 0);
            check.give("", i, Check.ILLEGAL_ARGUMENT);
            check.name(SIX[i], 0, i);
            check.give("", i);
        }
        check.name("g", 0, Check.ILLEGAL_STATE);
        check.give("", 6, Check.ILLEGAL_ARGUMENT);
        check.ill("g=='x'", 0);
        check.condition("f=='x'", 0);
    }

    /** 'have 1 to 8 letters a .. z'. */
    private static void lettersOfNames() {
        for (int length = 0; length <= 20; length++) {
            Object due = length >= 1 && length <= 8 ? (Object) 0 : Check.ILLEGAL_ARGUMENT;
            new Check().name("m".repeat(length), 0, due);
        }
        for (char c = 32; c <= 126; c++) {
            Object due = c >= 'a' && c <= 'z' ? (Object) 0 : Check.ILLEGAL_ARGUMENT;
            new Check().name(String.valueOf(c), 0, due);
            new Check().name(c + "m", 1, due);
            new Check().name("m" + c, 0, due);
        }
    }

    /** 'and a KIND: 0 text, 1 version'. */
    private static void kinds() {
        Check check = new Check();
        check.name("a", -1, Check.ILLEGAL_ARGUMENT);
        check.name("a", 2, Check.ILLEGAL_ARGUMENT);
        check.name("a", 0, 0);
        check.name("v", 1, 1);
        check.condition("a=='x'", 0);
        check.ill("v=='x'", 3);
    }

    /** 'or, and, not, in, true, false are none': a letter less or more makes a name of each. */
    private static void wordsAreNoNames() {
        for (String word : WORDS) {
            new Check().name(word, 0, Check.ILLEGAL_ARGUMENT);
            for (String near : new String[] {word.substring(1), word.substring(0, word.length() - 1), word + "s",
                "s" + word}) {
                Check check = new Check();
                check.name(near, 0, 0);
                int c = check.condition("not " + near + " in['x'] and " + near + "=='y'");
                Check.due(near, check.printed(c), "not " + near + " in ['x'] and " + near + " == 'y'");
            }
        }
    }

    /** Whether a text is a VALUE of a name: as a KNOWN one, in the ENVIRONMENT, in a comparison, in a list. */
    private static void value(int name, String text, boolean isValue) {
        Check check = Check.withNames();
        check.value(text, name, isValue ? (Object) 1 : Check.ILLEGAL_ARGUMENT);
        check.give(text, name, isValue || text.isEmpty() ? (Object) 0 : Check.ILLEGAL_ARGUMENT);
        String spelled = name == 2 ? "v" : "a";
        if (isValue) {
            check.condition(spelled + "=='" + text + "'", 0);
            check.condition(spelled + " in['" + text + "','1']", 1);
            Check.due("given " + text, check.x.holds(0) && check.x.holds(1), true);
        } else if (text.indexOf('\'') < 0) {
            check.ill(spelled + "=='" + text + "'", 3);
            check.ill(spelled + " in['1','" + text + "']", 9);
        }
    }

    /** 'A VALUE of a name of KIND 0: 1 to 8 characters a .. z, 0 .. 9, .'. */
    private static void textValues() {
        for (int length = 0; length <= 12; length++) {
            value(0, "m".repeat(length), length >= 1 && length <= 8);
        }
        for (char c = 32; c <= 126; c++) {
            boolean isIn = c >= 'a' && c <= 'z' || c >= '0' && c <= '9' || c == '.';
            value(0, String.valueOf(c), isIn);
            value(0, c + "m", isIn);
            value(0, "mmmmmmm" + c, isIn);
        }
    }

    /** 'of KIND 1: one to three numbers with . between, each of 1 to 3 digits, without a 0 in front of others'. */
    private static void versionValues() {
        String[] taken = {"0", "9", "10", "99", "100", "999", "0.0", "0.0.0", "1.2", "1.2.3", "999.999", "999.999.999",
            "10.0.100", "0.1.0", "0.0.999"};
        for (String text : taken) {
            value(2, text, true);
        }
        String[] refused = {"", ".", "..", "1.", ".1", "1..1", "1.1.", ".1.1", "1.1.1.", "1.1.1.1", "1000", "0000", "1.1000",
            "1.1.1000", "00", "01", "000", "001", "1.00", "1.01", "1.1.00", "1.1.09", "0.00", "1 .1", "1. 1", " 1", "1 "};
        for (String text : refused) {
            value(2, text, false);
        }
        for (char c = 32; c <= 126; c++) {
            boolean isDigit = c >= '0' && c <= '9';
            value(2, String.valueOf(c), isDigit);
            value(2, "1" + c, isDigit);
            value(2, "1" + c + "2", isDigit || c == '.');
        }
    }

    /** 'numbers that lack are 0'. */
    private static void lackingNumbers() {
        String[][] same = {{"0", "0.0", "0.0.0"}, {"7", "7.0", "7.0.0"}, {"7.1", "7.1.0"}};
        for (String[] texts : same) {
            for (String given : texts) {
                Check check = Check.withNames();
                check.give(given, 2);
                for (String text : texts) {
                    Check.due(given + " is " + text, check.x.holds(check.condition("v=='" + text + "'")), true);
                }
                Check.due("the next ones", check.x.holds(check.condition("v in['0.0.1','7.0.1','7.1.1']")), false);
            }
        }
    }

    /** 'compared number by number (KIND 1), or by their characters (KIND 0: one that another begins with is less)'. */
    private static void comparedValues() {
        less(2, "1.9", "1.10");
        less(2, "2", "10");
        less(2, "0.999.999", "1");
        less(2, "1.0.999", "1.1");
        less(2, "0", "0.0.1");
        less(0, "1.10", "1.9");
        less(0, "10", "2");
        less(0, "9", "a");
        less(0, ".", "0");
        less(0, "a", "a.");
        less(0, "abcdefg", "abcdefg.");
        less(0, "azzzzzzz", "b");
    }

    private static void less(int name, String less, String greater) {
        Check check = Check.withNames();
        String spelled = name == 2 ? "v" : "a";
        check.give(less, name);
        Check.due(less + " < " + greater, check.x.holds(check.condition(spelled + "<'" + greater + "'")), true);
        Check.due(less + " >= " + greater, check.x.holds(check.condition(spelled + ">='" + greater + "'")), false);
        check.give(greater, name);
        Check.due(greater + " > " + less, check.x.holds(check.condition(spelled + ">'" + less + "'")), true);
        Check.due(greater + " <= " + less, check.x.holds(check.condition(spelled + "<='" + less + "'")), false);
    }

    /** 'Each name has at most 6 KNOWN VALUES'. */
    private static void atMostSixKnown() {
        Check check = Check.withNames();
        for (int name = 0; name < 3; name++) {
            for (int i = 1; i <= 6; i++) {
                check.value("1." + i, name, i);
            }
            check.value("1.7", name, Check.ILLEGAL_STATE);
            check.value("1.8", name, Check.ILLEGAL_STATE);
        }
        int c = check.condition("v!='1.6'");
        Check.due("parted", check.x.classes(1 << c), 2);
        Check.due("the seventh is not there", check.x.many(0) + check.x.many(1), 2 * 6 + 2);
    }

    /** 'no two of which are the same when compared': of one name, not of two. */
    private static void noTwoTheSame() {
        Check check = Check.withNames();
        check.value("1", 2, 1);
        check.value("1.0.0", 2, Check.ILLEGAL_ARGUMENT);
        check.value("1.0.1", 2, 2);
        check.value("1", 0, 1);
        check.value("1.0.0", 0, 2);
        check.value("1", 0, Check.ILLEGAL_ARGUMENT);
        check.value("1", 1, 1);
    }

    /** 'Blanks may stand before and behind each word, sign and ' VALUE ' ': nowhere else, and none must. */
    private static void blanks() {
        String[] pieces = {"", "not", "(", "a", "in", "[", "'x'", ",", "'y'", "]", ")", "and", "v", "<=", "'1.0'", "or",
            "true", ""};
        String due = "not a in ['x', 'y'] and v <= '1.0' or true";
        String[] texts = {String.join(" ", pieces), String.join("    ", pieces),
            "not(a in['x','y'])and v<='1.0'or true"};
        for (String text : texts) {
            Check check = Check.withNames();
            Check.due(text, check.printed(check.condition(text)), due);
        }
        Check check = Check.withNames();
        check.ill("tr ue", 0);
        check.ill("n ot true", 0);
        check.ill("a i n['x']", 2);
        check.ill("true a nd true", 5);
        check.ill("a= ='x'", 2);
        check.ill("a! ='x'", 2);
        check.ill("a< ='x'", 3);
        check.ill("a> ='x'", 3);
        check.ill("a==' x'", 3);
        check.ill("a=='x '", 3);
        check.ill("v=='1. 0'", 3);
    }

    /** 'At most 12 not, ( are open at once': every row of 12, and each of both as the thirteenth. */
    private static void atMostTwelveOpen() {
        for (int bits = 0; bits < 1 << 12; bits += 117) {
            StringBuilder text = new StringBuilder();
            for (int i = 0; i < 12; i++) {
                text.append((bits >> i & 1) == 0 ? "(" : "not ");
            }
            Check check = new Check();
            check.ill(text + "not true", text.length());
            check.ill(text + "(true", text.length());
            check.ill(text + "  (true", text.length() + 2);
            check.condition(text + "true" + ")".repeat(12 - Integer.bitCount(bits)), 0);
        }
        Check check = new Check();
        check.condition("not ".repeat(12) + "false", 0);
        Check.due("an even number of not", check.x.holds(0), false);
        check.condition("not ".repeat(11) + "false", 1);
        Check.due("an odd number of not", check.x.holds(1), true);
    }

    /** A not ends with its TEST, a ( with its ) : what comes behind may open as many again. */
    private static void openAtOnce() {
        Check check = new Check();
        String nots = "not ".repeat(12) + "true";
        check.condition(nots + " and " + nots + " or not(true)", 0);
        String brackets = "(".repeat(12) + "true" + ")".repeat(12);
        check.condition(brackets + "or" + brackets + "and" + brackets, 1);
        String inside = "(".repeat(11) + "not true or not true and(true";
        check.condition(inside + ")".repeat(12), 2);
        check.ill(inside + " or(", inside.length() + 3);
        check.ill(inside + ")or not(", inside.length() + 7);
    }

    /** 'in a list at most 6 VALUES'. */
    private static void atMostSixInAList() {
        Check check = Check.withNames();
        StringBuilder list = new StringBuilder("v in['1'");
        for (int i = 2; i <= 6; i++) {
            check.ill(list + ", ", list.length() + 2);
            list.append(",'").append(i).append("'");
            check.condition(list + "]", i - 2);
        }
        check.ill(list + ",'7']", list.length() + 1);
        check.ill(list + " , '1']", list.length() + 3);
        check.ill(list + ",", list.length() + 1);
        check.give("6", 2);
        Check.due("the sixth is in it", check.x.holds(4), true);
        Check.due("and not in one of five", check.x.holds(3), false);
    }

    /** 'ILL at the first character that can't stand there': each sign at each place of a text. */
    private static void illCharacters() {
        String text = "a in [ 'x' , 'y' ] and ( v <= '1' ) or true ";
        int[] places = {5, 7, 11, 13, 17, 23, 27, 30, 34};
        Check check = Check.withNames();
        for (int place : places) {
            for (String wrong : new String[] {"~", "\"", "{", "A", "0", ".", "-", "_"}) {
                check.ill(text.substring(0, place) + wrong + text.substring(place), place);
                check.ill(text.substring(0, place) + wrong, place);
            }
        }
        check.ill(text + ")", text.length());
        check.ill(text + "1", text.length());
        check.condition(text, 0);
    }

    /** 'or begins a word that can't (a word: all letters a .. z from there on)'. */
    private static void illWords() {
        Check check = Check.withNames();
        for (String word : new String[] {"or", "and", "in", "c", "ab", "truea", "nots", "notnot", "abcdefghi", "tru"}) {
            check.ill(word, 0);
            check.ill("  " + word + "=='x'", 2);
            check.ill("true or " + word + " true", 8);
            check.ill("not(" + word, 4);
        }
        for (String word : new String[] {"a", "true", "false", "not", "in", "ora", "andnot", "o", "orr"}) {
            check.ill("true " + word, 5);
            check.ill("(a=='x'" + word + " true)", 7);
        }
        for (String word : new String[] {"a", "true", "not", "or", "and", "i", "ina", "inin"}) {
            check.ill("a " + word + " ['x']", 2);
        }
        check.ill("a in in['x']", 5);
        check.ill("a in a", 5);
        check.ill("a==x", 3);
    }

    /** 'a VALUE (with its ' ) that is none of its name's KIND': at its first quote. */
    private static void illValues() {
        Check check = Check.withNames();
        check.ill("a  ==  ''", 7);
        check.ill("a=='abcdefghi'", 3);
        check.ill("a=='x y' or", 3);
        check.ill("v=='x'", 3);
        check.ill("v=='1.2.3.4'", 3);
        check.ill("v in ['1', '01']", 11);
        check.ill("a=='x' and v=='a'", 14);
        check.condition("a=='abcdefgh' and v=='1.2.3'", 0);
    }

    /** 'at its length, if it ends too early': each beginning of a text is right, or ends too early, or within a word. */
    private static void endsTooEarly() {
        String text = "not ( a in [ 'x' , 'y.1' ] or v <= '1.20' ) and true or false ";
        for (int length = 0; length <= text.length(); length++) {
            Check check = Check.withNames();
            String beginning = text.substring(0, length);
            if (beginning.matches(".*[)][ ]?|.*true[ ]?|.*false[ ]?")) {
                check.condition(beginning, 0);
            } else {
                check.ill(beginning, beginningOfCutWord(text, length));
            }
        }
    }

    /** Where the word begins that a length cuts in two; the length itself if it cuts none. */
    private static int beginningOfCutWord(String text, int length) {
        int at = 0;
        for (String word : text.split(" ")) {
            if (at < length && length < at + word.length() && word.matches("[a-z]+")) {
                return at;
            }
            at += word.length() + 1;
        }
        return length;
    }

    /** 'a GAP .. is the same as no VALUE', and lies below the first, between each two, above the last one. */
    private static void gaps() {
        Check check = Check.withNames();
        check.condition("v in['1','2']", 0);
        check.condition("v!='1' and v!='2'", 1);
        check.condition("v<'1'", 2);
        check.condition("v>'1' and v<'2'", 3);
        check.condition("v>'2'", 4);
        Check.due("classes", check.x.classes(31), 5);
        int[] many = {1, 1, 2, 1, 1};
        int[] first = {0, 1, 2, 3, 5};
        for (int k = 0; k < 5; k++) {
            Check.due("many " + k, check.x.many(k), many[k]);
            Check.due("sample " + k, check.x.sample(k, 2), first[k]);
            Check.due("a value in " + k, check.x.inClass(k, 0), k == 2);
            Check.due("none of them in " + k, check.x.inClass(k, 1), k != 2);
        }
    }

    /** Between each two, below the first and above the last one: even where no VALUE could lie. */
    private static void gapsOfNeighbours() {
        gapBetween(0, "aaaaaaaa", "aaaaaaab");
        gapBetween(0, "zzzzzzzy", "zzzzzzzz");
        gapBetween(0, ".......9", ".......a");
        gapBetween(0, "a9", "a9.");
        gapBetween(0, ".", "..");
        gapBetween(2, "0", "0.0.1");
        gapBetween(2, "0.0.999", "0.1");
        gapBetween(2, "0.999.999", "1");
        gapBetween(2, "999.999.998", "999.999.999");
    }

    private static void gapBetween(int name, String below, String above) {
        Check check = Check.withNames();
        String spelled = name == 2 ? "v" : "a";
        check.condition(spelled + "<'" + below + "'", 0);
        check.condition(spelled + "=='" + below + "'", 1);
        check.condition(spelled + ">'" + below + "'and " + spelled + "<'" + above + "'", 2);
        check.condition(spelled + "=='" + above + "'", 3);
        check.condition(spelled + ">'" + above + "'", 4);
        Check.due("classes of " + below + " and " + above, check.x.classes(31), 6);
        for (int k = 0; k < 6; k++) {
            Check.due("many " + k + " of " + below, check.x.many(k), 1);
            Check.due("sample " + k + " of " + below, check.x.sample(k, name), k);
            Check.due("the one that is true in " + k, k == 0 || check.x.inClass(k, k - 1), true);
        }
    }

    /** 'More than 20000 CHOICES are TOO MANY': 10 * 10 * 10 * 20 are not, 22 * 38 * 6 * 4 = 20064 are. */
    private static void choices() {
        Check most = new Check();
        Check more = new Check();
        for (int i = 0; i < 4; i++) {
            most.name(SIX[i], 1, i);
            more.name(SIX[i], 1, i);
        }
        String six = " in['1','2','3','4','5','6']";
        String four = " in['1','2','3','4']";
        most.condition("a" + four + "and b" + four + "and c" + four + "and d" + six + "or d in['7','8','9']", 0);
        verdicts(most, 1, 20000);
        for (int i = 1; i <= 6; i++) {
            more.value("20." + i, 1, i);
        }
        String twelve = "b" + six + "or b in['11','12','13','14','15','16']";
        more.condition("a" + six + "or a in['7','8','9','10']or " + twelve + "or c in['1','2']or d=='1'", 0);
        verdicts(more, MarkerText.NONE, 20064);
    }

    private static void verdicts(Check check, int ever, int count) {
        check.condition("true", 1);
        check.condition("a=='1'", 2);
        Check.due("ever of " + count, check.x.ever(0), ever);
        for (int other = 0; other < 3; other++) {
            Check.due("implies of " + count, check.x.implies(0, other) == MarkerText.NONE, ever < 0);
            Check.due("implies of " + count, check.x.implies(other, 0) == MarkerText.NONE, ever < 0);
            Check.due("apart of " + count, check.x.apart(0, other) == MarkerText.NONE, ever < 0);
            Check.due("apart of " + count, check.x.apart(other, 0) == MarkerText.NONE, ever < 0);
        }
        Check.due("ever of few", check.x.ever(2), 1);
        Check.due("implies of few", check.x.implies(2, 1), 1);
        Check.due("classes of " + count, check.x.classes(1), ever < 0 ? -1 : 2);
        Check.due("many of " + count, check.x.many(0) < 0 ? -1 : check.x.many(0) + check.x.many(1),
                ever < 0 ? -1 : count);
    }
}
