/** Promise 16: the fewest brackets, the blanks, and VALUES as they are written. */
public final class PrintedTest {
    public static void main(String[] args) {
        blanks();
        brackets();
        everyCharacter();
        noSuch();
        Check.end();
    }

    private static void printed(String text, String want) {
        Check check = Check.withNames();
        Check.due("printed " + text, check.printed(check.condition(text)), want);
        Check again = Check.withNames();
        Check.due("printed again " + text, again.printed(again.condition(want)), want);
    }

    private static void blanks() {
        printed("true", "true");
        printed("  false  ", "false");
        printed("a=='x'", "a == 'x'");
        printed("a  !=  'x'", "a != 'x'");
        printed("v<'1.0'", "v < '1.0'");
        printed("v<='1.0.0'", "v <= '1.0.0'");
        printed("v>'0'", "v > '0'");
        printed("v>='0.0'", "v >= '0.0'");
        printed("a in['x']", "a in ['x']");
        printed(" a  in  [ 'x' , 'y','x' ] ", "a in ['x', 'y', 'x']");
        printed("v in['1','1.0','1.0.0','2','3','4']", "v in ['1', '1.0', '1.0.0', '2', '3', '4']");
        printed("not  a=='x'", "not a == 'x'");
        printed("not a in['x']", "not a in ['x']");
        printed("a=='x'or b=='y'and v=='1'", "a == 'x' or b == 'y' and v == '1'");
        printed("not not  not true", "not not not true");
    }

    private static void brackets() {
        printed("(true)", "true");
        printed("((((((((((((true))))))))))))", "true");
        printed("(a=='x')or(b=='y')", "a == 'x' or b == 'y'");
        printed("(a=='x' and b=='y') or true", "a == 'x' and b == 'y' or true");
        printed("true or (a=='x' and b=='y')", "true or a == 'x' and b == 'y'");
        printed("(true or false) and true", "(true or false) and true");
        printed("true and (true or false)", "true and (true or false)");
        printed("(true or false) or true", "true or false or true");
        printed("((true or false) or true) or false", "true or false or true or false");
        printed("true or (false or true)", "true or (false or true)");
        printed("true or ((false or true))", "true or (false or true)");
        printed("true or (false or true) or false", "true or (false or true) or false");
        printed("true or (false or (true or false))", "true or (false or (true or false))");
        printed("true or ((false or true) or false)", "true or (false or true or false)");
        printed("(true and false) and true", "true and false and true");
        printed("true and (false and true)", "true and (false and true)");
        printed("true and (false and true) and false", "true and (false and true) and false");
        printed("true and ((false and true) or false)", "true and (false and true or false)");
        printed("not (true)", "not true");
        printed("not (not (true))", "not not true");
        printed("not (true and false)", "not (true and false)");
        printed("not (true or false)", "not (true or false)");
        printed("not ((true or false))", "not (true or false)");
        printed("(not true) and false", "not true and false");
        printed("true and (not false)", "true and not false");
        printed("(not (true or false)) or true", "not (true or false) or true");
        printed("not (true) and false", "not true and false");
        printed("(((true) and ((false) or true)))", "true and (false or true)");
    }

    private static void everyCharacter() {
        Check check = Check.withNames();
        int c = check.condition("a=='x'or(b=='y'or not(v<'1'and true))");
        String due = "a == 'x' or (b == 'y' or not (v < '1' and true))";
        for (int i = 0; i < due.length(); i++) {
            Check.due("printed " + i, check.x.printed(c, i), (int) due.charAt(i));
        }
        Check.due("behind the last", check.x.printed(c, due.length()), 0);
        longest();
    }

    /** What has no blanks grows by them beyond the 160 characters of a TEXT. */
    private static void longest() {
        Check check = Check.withNames();
        String twenty = "a<'1'" + "or a<'1'".repeat(19);
        int c = check.condition(twenty);
        String due = "a < '1'" + " or a < '1'".repeat(19);
        Check.due("printed", check.printed(c), due);
        Check.due("behind the last", check.x.printed(c, due.length()), 0);
    }

    private static void noSuch() {
        Check check = Check.withNames();
        int c = check.condition("true");
        for (int i : new int[] {-1, 4, 5, 160, Integer.MAX_VALUE, Integer.MIN_VALUE}) {
            Check.due("printed " + i, check.x.printed(c, i), 0);
        }
        for (int none : new int[] {-1, 1, 8, 32, Integer.MAX_VALUE, Integer.MIN_VALUE}) {
            Check.due("printed of " + none, check.x.printed(none, 0), 0);
        }
        check.ill("false or", 8);
        Check.due("an ill text is no condition", check.x.printed(1, 0), 0);
        Check.due("and changes none", check.printed(0), "true");
    }
}
