/** Promises 5 and 6: which texts are conditions, their numbers, and the place at which a text is ILL. */
public final class ConditionTest {
    public static void main(String[] args) {
        numbers();
        words();
        operators();
        values();
        lists();
        brackets();
        open();
        tests();
        places();
        Check.end();
    }

    private static void numbers() {
        Check check = Check.withNames();
        for (int i = 0; i < 8; i++) {
            check.condition("true", i);
        }
        check.condition("true", Check.ILLEGAL_STATE);
        Check.due("place of a text that is not ill", check.x.place(), -1);
        check.ill("true or", 7);
        check.condition("a=='x'", Check.ILLEGAL_STATE);
        Check.due("place again", check.x.place(), -1);
        Check.due("no ninth", check.x.ever(8), -1);
    }

    private static void words() {
        Check check = Check.withNames();
        check.ill("", 0);
        check.ill("   ", 3);
        check.ill("tru", 0);
        check.ill("  truefalse", 2);
        check.ill("nottrue", 0);
        check.ill("nota=='x'", 0);
        check.ill("c=='x'", 0);
        check.ill("in['x']", 0);
        check.ill("or true", 0);
        check.ill("and", 0);
        check.ill("True", 0);
        check.ill("true1", 4);
        check.ill("true an", 5);
        check.ill("true andtrue", 5);
        check.ill("true orfalse", 5);
        check.ill("true not false", 5);
        check.ill("true a", 5);
        check.ill("true and", 8);
        check.ill("true and ", 9);
        check.ill("true or or", 8);
        check.ill("not", 3);
        check.ill("not ", 4);
        check.ill("not or", 4);
        check.ill("true,", 4);
        check.ill("'x'", 0);
        check.ill("ab=='x'", 0);
        check.ill("a1=='x'", 1);
        check.ill("true&true", 4);
        check.ill("true or\tfalse".replace('\t', '~'), 7);
        check.condition("a=='x'and(b=='y')or not(true)and false", 0);
        check.condition("  not  not  true  ", 1);
    }

    private static void operators() {
        Check check = Check.withNames();
        check.ill("a", 1);
        check.ill("a ", 2);
        check.ill("a=", 2);
        check.ill("a='x'", 2);
        check.ill("a= ='x'", 2);
        check.ill("a!", 2);
        check.ill("a!'x'", 2);
        check.ill("a! ='x'", 2);
        check.ill("a===", 3);
        check.ill("a=='", 4);
        check.ill("a==", 3);
        check.ill("a<", 2);
        check.ill("a<>'x'", 2);
        check.ill("a< ='x'", 3);
        check.ill("a<==", 3);
        check.ill("a=<'x'", 2);
        check.ill("a>>'x'", 2);
        check.ill("a~='x'", 1);
        check.ill("a 'x'", 2);
        check.ill("a i", 2);
        check.ill("a inn['x']", 2);
        check.ill("a not in ['x']", 2);
        check.ill("a true", 2);
        check.ill("a)", 1);
        check.condition("a =='x'or a!= 'x'or a < 'x'or a<='x'or a> 'x' or a>= 'x' ", 0);
    }

    private static void values() {
        Check check = Check.withNames();
        check.ill("a==x", 3);
        check.ill("a== x", 4);
        check.ill("a=='x", 5);
        check.ill("a=='X", 5);
        check.ill("a=='toolongvalue", 16);
        check.ill("a==''", 3);
        check.ill("a== ' x'", 4);
        check.ill("a=='x '", 3);
        check.ill("a=='X'", 3);
        check.ill("a=='abcdefghi'", 3);
        check.ill("a==\"x\"", 3);
        check.ill("v=='1.2.3.4'", 3);
        check.ill("v=='x'", 3);
        check.ill("v=='01'", 3);
        check.ill("v=='1.'", 3);
        check.ill("v=='1000'", 3);
        check.ill("v<='1,2'", 3);
        check.ill("a=='x and b=='y'", 3);
        check.ill("a=='x'b=='y'", 6);
        check.ill("a=='x''y'", 6);
        check.ill("a=='x' 'y'", 7);
        check.condition("a=='abcdefgh'or v=='999.0.10'", 0);
    }

    private static void lists() {
        Check check = Check.withNames();
        check.ill("a in", 4);
        check.ill("a in ", 5);
        check.ill("a in 'x'", 5);
        check.ill("a in (", 5);
        check.ill("a in [", 6);
        check.ill("a in []", 6);
        check.ill("a in [,'x']", 6);
        check.ill("a in ['x'", 9);
        check.ill("a in ['x' ", 10);
        check.ill("a in ['x',", 10);
        check.ill("a in ['x',]", 10);
        check.ill("a in ['x' 'y']", 10);
        check.ill("a in ['x';'y']", 9);
        check.ill("a in ['x')", 9);
        check.ill("a in ['x','Y']", 10);
        check.ill("v in ['1','x']", 10);
        check.ill("a in ['x','y", 12);
        check.ill("a in ['x']]", 10);
        check.condition("a in['x']", 0);
        check.condition(" v  in  [ '1' , '1.0','1' ,'2','3' ,'4' ] ", 1);
        check = Check.withNames();
        String six = "a in ['1','2','3','4','5','6'";
        check.condition(six + "]", 0);
        check.ill(six + ",'7']", 30);
        check.ill(six + ", '7", 31);
        check.ill(six + ",", 30);
        check.ill(six + ",]", 30);
        check.ill(six + "  ,  'X'", 34);
        check.condition(six + "] or " + six + "]", 1);
    }

    private static void brackets() {
        Check check = Check.withNames();
        check.ill("(", 1);
        check.ill("()", 1);
        check.ill(")", 0);
        check.ill("(true", 5);
        check.ill("(true ", 6);
        check.ill("(true]", 5);
        check.ill("true)", 4);
        check.ill("(true))", 6);
        check.ill("(true)true", 6);
        check.ill("(true)(true)", 6);
        check.ill("(true or)", 8);
        check.ill("true(true)", 4);
        check.ill("not)", 3);
        check.ill("[true]", 0);
        check.condition("( ( true )or(false) ) ", 0);
    }

    private static void open() {
        Check check = Check.withNames();
        check.condition("(".repeat(12) + "true" + ")".repeat(12), 0);
        check.ill("(".repeat(13) + "true" + ")".repeat(13), 12);
        check.condition("not ".repeat(12) + "true", 1);
        check.ill("not ".repeat(13) + "true", 48);
        check = Check.withNames();
        check.condition("not(".repeat(6) + "true" + ")".repeat(6), 0);
        check.ill("not(".repeat(6) + "not true", 24);
        check.ill("not(".repeat(6) + " (true", 25);
        check.ill("not(".repeat(6) + "nota", 24);
        String closed = "(".repeat(11) + "not true" + ")".repeat(11);
        check.condition(closed + "or " + closed + "or not(" + "(".repeat(9) + "not true" + ")".repeat(10), 1);
        check.condition("(".repeat(11) + "not true and not false" + ")".repeat(11), 2);
        check = Check.withNames();
        check.ill("(".repeat(11) + "not true and not (false" + ")".repeat(12), 28);
        check.ill("(".repeat(12) + "true or (" + ")".repeat(12), 20);
    }

    /** 160 characters cannot hold 41 TESTS: the most that they hold are 20, which must all be read. */
    private static void tests() {
        Check check = Check.withNames();
        StringBuilder most = new StringBuilder("a<'0'");
        for (int i = 1; i < 20; i++) {
            most.append("or a<'").append((char) ('a' + i)).append("'");
        }
        Check.due("length", most.length(), 157);
        check.condition(most.toString(), 0);
        check.give("s", 0);
        Check.due("the last test", check.x.holds(0), true);
        check.give("t", 0);
        Check.due("all tests", check.x.holds(0), false);
    }

    private static void places() {
        Check check = Check.withNames();
        Check.due("no condition yet", check.x.place(), -1);
        check.ill("true or", 7);
        check.value("X", 0, Check.ILLEGAL_ARGUMENT);
        check.name("X", 0, Check.ILLEGAL_ARGUMENT);
        check.give("X", 0, Check.ILLEGAL_ARGUMENT);
        Check.due("only condition() changes it", check.x.place(), 7);
        check.condition("true", 0);
        Check.due("not ill", check.x.place(), -1);
        check.ill("(", 1);
    }
}
