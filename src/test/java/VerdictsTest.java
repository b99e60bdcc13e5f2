/** Promises 9, 10 and 11: ever, implies and apart. */
public final class VerdictsTest {
    public static void main(String[] args) {
        ever();
        pairs();
        known();
        noSuch();
        Check.end();
    }

    private static void ever(String text, int want) {
        Check check = Check.withNames();
        Check.due("ever " + text, check.x.ever(check.condition(text)), want);
    }

    private static void ever() {
        ever("true", 1);
        ever("false", 0);
        ever("true and not true", 0);
        ever("a=='x'", 1);
        ever("a=='x' and a=='y'", 0);
        ever("a=='x' and a!='x'", 0);
        ever("a=='x' or a!='x'", 1);
        ever("not (a=='x' or a!='x')", 0);
        ever("not (a<='x' or a>'x')", 1);
        ever("not (a<='x' or a>'x') and a=='x'", 0);
        ever("v<'1' and v>='1.0'", 0);
        ever("v<='1' and v>='1.0'", 1);
        ever("v>'1' and v<'2'", 1);
        // A GAP lies below the least VALUE there is, above the greatest, and between neighbours.
        ever("v<'0'", 1);
        ever("v>'999.999.999'", 1);
        ever("v>'1' and v<'1.0.1'", 1);
        ever("a>'x' and a<'x.'", 1);
        ever("a<'.'", 1);
        ever("a in ['x','y'] and a<'x'", 0);
        ever("a in ['x','y'] and a>'x'", 1);
        ever("a>'x' and a<'y' and a in ['x','y']", 0);
        ever("a=='x' and b=='x'", 1);
        ever("a=='x' and b=='y' and v<'3' and not v!='2'", 1);
    }

    private static void pair(String a, String b, int aImpliesB, int bImpliesA, int apart) {
        Check check = Check.withNames();
        int first = check.condition(a);
        check.condition("true");
        int second = check.condition(b);
        Check.due(a + " implies " + b, check.x.implies(first, second), aImpliesB);
        Check.due(b + " implies " + a, check.x.implies(second, first), bImpliesA);
        Check.due(a + " apart " + b, check.x.apart(first, second), apart);
        Check.due(b + " apart " + a, check.x.apart(second, first), apart);
        Check.due(a + " implies itself", check.x.implies(first, first), 1);
        Check.due(a + " apart from itself", check.x.apart(first, first), 1 - check.x.ever(first));
    }

    private static void pairs() {
        pair("a=='x'", "a=='x'", 1, 1, 0);
        pair("a=='x'", "a!='x'", 0, 0, 1);
        pair("a=='x'", "a=='y'", 0, 0, 1);
        pair("a=='x'", "b=='x'", 0, 0, 0);
        pair("v<'1'", "v<'2'", 1, 0, 0);
        pair("v<'1'", "v<='1'", 1, 0, 0);
        pair("v<'1.0'", "v>='1'", 0, 0, 1);
        pair("v!='1'", "not v=='1.0.0'", 1, 1, 0);
        pair("not v<'1'", "v>='1'", 0, 1, 0);
        pair("false", "a=='x'", 1, 0, 1);
        pair("true", "a=='x'", 0, 1, 0);
        pair("false", "false", 1, 1, 1);
        pair("true", "false", 0, 1, 1);
        pair("a in ['x','y']", "a=='y' or a=='x'", 1, 1, 0);
        pair("a in ['x','y']", "a in ['y','z']", 0, 0, 0);
        pair("a=='x' and b=='y'", "b=='y'", 1, 0, 0);
        pair("a>'x'", "a>'x' and a!='x.'", 0, 1, 0);
        // Of the set of both: the second one's VALUE stands in a GAP of the first one's.
        pair("v>'1' and v<'2'", "v!='1.5'", 0, 0, 0);
        pair("v>'1' and v<'2'", "v=='1.5'", 0, 1, 0);
    }

    private static void known() {
        Check check = Check.withNames();
        int c = check.condition("a>'x' and a<'y'");
        check.value("xx", 0, 1);
        Check.due("a known value lies there", check.x.ever(c), 1);
        int d = check.condition("a>'x' and a<'y' and not a in ['xx']");
        Check.due("gaps beside it", check.x.ever(d), 1);
        Check.due("the value is left out", check.x.implies(c, d), 0);
    }

    private static void noSuch() {
        Check check = Check.withNames();
        check.condition("true");
        for (int none : new int[] {-1, 1, 7, 8, 31, 32, 33, -32, Integer.MAX_VALUE, Integer.MIN_VALUE}) {
            Check.due("ever " + none, check.x.ever(none), -1);
            Check.due("implies 0 " + none, check.x.implies(0, none), -1);
            Check.due("implies " + none + " 0", check.x.implies(none, 0), -1);
            Check.due("implies twice " + none, check.x.implies(none, none), -1);
            Check.due("apart 0 " + none, check.x.apart(0, none), -1);
            Check.due("apart " + none + " 0", check.x.apart(none, 0), -1);
            Check.due("apart twice " + none, check.x.apart(none, none), -1);
        }
    }
}
