/** Promise 3: which texts are names, their numbers, and what is thrown. */
public final class NameTest {
    public static void main(String[] args) {
        numbers();
        wrong();
        full();
        Check.end();
    }

    private static void numbers() {
        Check check = new Check();
        check.name("a", 0, 0);
        check.name("z", 1, 1);
        check.name("abcdefgh", 0, 2);
        check.name("ora", 1, 3);
        check.name("notin", 0, 4);
        check.name("i", 1, 5);
        check.condition("ora=='1' or notin=='x' or i=='2' and abcdefgh=='..'", 0);
    }

    private static void wrong() {
        Check check = new Check();
        String[] none = {"", " ", " a", "a ", "a b", "abcdefghi", "a1", "1", "A", "aB", "a.", "a_b", "'a'", "`", "{",
            "or", "and", "not", "in", "true", "false"};
        for (String text : none) {
            check.name(text, 0, Check.ILLEGAL_ARGUMENT);
            check.name(text, 1, Check.ILLEGAL_ARGUMENT);
        }
        for (int kind : new int[] {-1, 2, 3, Integer.MAX_VALUE, Integer.MIN_VALUE}) {
            check.name("a", kind, Check.ILLEGAL_ARGUMENT);
        }
        check.name("a", 0, 0);
        check.name("a", 0, Check.ILLEGAL_ARGUMENT);
        check.name("a", 1, Check.ILLEGAL_ARGUMENT);
        check.name("aa", 1, 1);
    }

    private static void full() {
        Check check = new Check();
        String[] six = {"a", "b", "c", "d", "e", "f"};
        for (int i = 0; i < 6; i++) {
            check.name(six[i], i % 2, i);
        }
        check.name("g", 0, Check.ILLEGAL_STATE);
        check.name("g", 1, Check.ILLEGAL_STATE);
        check.name("g", 2, Check.ILLEGAL_ARGUMENT);
        check.name("f", 0, Check.ILLEGAL_ARGUMENT);
        check.name("", 0, Check.ILLEGAL_ARGUMENT);
        check.name("true", 0, Check.ILLEGAL_ARGUMENT);
        check.ill("g=='x'", 0);
        check.condition("f=='1.2.3'", 0);
    }
}
