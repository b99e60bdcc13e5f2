/** Promise 2: which characters TEXT takes, how many, and which calls leave it. */
public final class TypeTest {
    public static void main(String[] args) {
        codes();
        length();
        left();
        Check.end();
    }

    private static void codes() {
        for (int code = 0; code < 65536; code++) {
            MarkerText x = new MarkerText();
            boolean due = code >= 32 && code <= 126;
            if (x.type((char) code) != due) {
                Check.due("type of code " + code, !due, due);
            }
        }
        Check refused = new Check();
        refused.type("a");
        Check.due("31", refused.x.type((char) 31), false);
        Check.due("127", refused.x.type((char) 127), false);
        Check.due("10", refused.x.type('\n'), false);
        Check.due("0", refused.x.type((char) 0), false);
        Check.due("65535", refused.x.type((char) 65535), false);
        refused.name("b", 0, 0);
        refused.ill("a=='1'", 0);
        refused.condition("ab=='1'", 0);
    }

    private static void length() {
        Check check = new Check();
        check.type(" ".repeat(156) + "true");
        Check.due("the 161st", check.x.type('x'), false);
        Check.due("the 161st again", check.x.type(' '), false);
        check.condition("", 0);
        Check.due("printed", check.printed(0), "true");
        check.type(" ".repeat(160));
        check.ill("", 160);
        Check.due("room again", check.x.type('t'), true);
    }

    /** The calls that take TEXT, which empty it, are in TermsTest. */
    private static void left() {
        Check check = Check.withNames();
        check.condition("true", 0);
        check.type("tr");
        check.x.place();
        check.x.holds(0);
        check.x.ever(0);
        check.x.implies(0, 0);
        check.x.apart(0, 0);
        check.x.classes(1);
        check.x.many(0);
        check.x.inClass(0, 0);
        check.x.sample(0, 0);
        check.x.printed(0, 0);
        check.condition("ue", 1);
    }
}
