/** A MarkerText under test, with whole texts instead of characters; it counts the answers that are not due. */
final class Check {
    static final String ILLEGAL_ARGUMENT = "IllegalArgumentException";
    static final String ILLEGAL_STATE = "IllegalStateException";

    private static int wrong = 0;
    private static int asked = 0;

    final MarkerText x = new MarkerText();

    static void due(String what, Object got, Object want) {
        asked++;
        if (!String.valueOf(got).equals(String.valueOf(want))) {
            wrong++;
            System.out.println(what + " answered " + got + ", due is " + want);
        }
    }

    /** Ends the test's main method. */
    static void end() {
        if (wrong != 0 || asked == 0) {
            System.out.println(wrong + " of " + asked + " answers are not as due");
            System.exit(1);
        }
        System.out.println("        " + asked + " answers are as due");
    }

    Check type(String text) {
        for (int i = 0; i < text.length(); i++) {
            due("type of '" + text.charAt(i) + "' in " + text, x.type(text.charAt(i)), true);
        }
        return this;
    }

    /** The number that a call answers, or the name of what it throws. */
    private interface Call {
        int made();
    }

    private static String answer(Call call) {
        try {
            return Integer.toString(call.made());
        } catch (RuntimeException e) {
            return e.getClass().getSimpleName();
        }
    }

    void name(String text, int kind, Object want) {
        type(text);
        due("name '" + text + "' of kind " + kind, answer(() -> x.name(kind)), want);
    }

    void value(String text, int name, Object want) {
        type(text);
        due("value '" + text + "' of " + name, answer(() -> x.value(name)), want);
    }

    void give(String text, int name, Object want) {
        type(text);
        due("give '" + text + "' to " + name, answer(() -> {
            x.give(name);
            return 0;
        }), want);
    }

    void give(String text, int name) {
        give(text, name, 0);
    }

    void condition(String text, Object want) {
        type(text);
        due("condition " + text, answer(x::condition), want);
    }

    /** Makes a condition that must be right; its number. */
    int condition(String text) {
        type(text);
        int number = x.condition();
        due("place after " + text, x.place(), MarkerText.NONE);
        return number;
    }

    void ill(String text, int place) {
        condition(text, ILLEGAL_ARGUMENT);
        due("place of " + text, x.place(), place);
    }

    String printed(int condition) {
        StringBuilder line = new StringBuilder();
        for (int i = 0; x.printed(condition, i) != 0 && i < 1000; i++) {
            line.append((char) x.printed(condition, i));
        }
        return line.toString();
    }

    /** A new object with names a and b of texts, and v of versions. */
    static Check withNames() {
        Check check = new Check();
        check.name("a", 0, 0);
        check.name("b", 0, 1);
        check.name("v", 1, 2);
        return check;
    }
}
