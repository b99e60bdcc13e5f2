/** Promises 12 to 15: how many CLASSES, how many CHOICES each has, what is true in them, their first CHOICE. */
public final class ClassesTest {
    public static void main(String[] args) {
        oneName();
        order();
        sets();
        upwards();
        sixNames();
        most();
        again();
        fullOfValues();
        kept();
        noSuch();
        twentyThousand();
        tooMany();
        Check.end();
    }

    private static void due(Check check, int set, int... many) {
        Check.due("classes " + set, check.x.classes(set), many.length);
        for (int k = 0; k < many.length; k++) {
            Check.due("many " + k + " of set " + set, check.x.many(k), many[k]);
        }
        Check.due("many behind the last", check.x.many(many.length), -1);
    }

    private static void oneName() {
        Check check = Check.withNames();
        check.condition("v>='1'");
        check.condition("v<'2'");
        due(check, 3, 1, 1, 2, 2);
        int[] samples = {0, 1, 2, 4};
        boolean[] first = {false, false, true, true};
        boolean[] second = {false, true, true, false};
        for (int k = 0; k < 4; k++) {
            Check.due("sample " + k, check.x.sample(k, 2), samples[k]);
            Check.due("another name's sample " + k, check.x.sample(k, 0), 0);
            Check.due("inClass 0 of " + k, check.x.inClass(k, 0), first[k]);
            Check.due("inClass 1 of " + k, check.x.inClass(k, 1), second[k]);
        }
    }

    /** The last name's SAMPLES come first. */
    private static void order() {
        Check check = Check.withNames();
        check.condition("a=='x'");
        check.condition("v=='1'");
        due(check, 3, 9, 3, 3, 1);
        int[][] samples = {{0, 0, 0}, {0, 0, 2}, {2, 0, 0}, {2, 0, 2}};
        for (int k = 0; k < 4; k++) {
            for (int name = 0; name < 3; name++) {
                Check.due("sample of " + name + " in " + k, check.x.sample(k, name), samples[k][name]);
            }
            Check.due("a=='x' in " + k, check.x.inClass(k, 0), k >= 2);
            Check.due("v=='1' in " + k, check.x.inClass(k, 1), k % 2 == 1);
        }
        check.condition("b!='y' and v<'1' and a>'x'");
        due(check, 4, 64 - 3, 3);
        Check.due("a above x", check.x.sample(1, 0), 3);
        Check.due("b none", check.x.sample(1, 1), 0);
        Check.due("v below 1", check.x.sample(1, 2), 1);
    }

    private static void sets() {
        Check check = Check.withNames();
        check.condition("a=='x'");
        check.condition("not a=='x'");
        check.condition("true");
        check.value("y", 1, 1);
        due(check, 0, 1);
        due(check, ~7, 1);
        due(check, 4, 1);
        Check.due("true in its class", check.x.inClass(0, 2), true);
        Check.due("a condition that is not in the set", check.x.inClass(0, 1), false);
        due(check, 1, 3, 1);
        due(check, 3, 3, 1);
        due(check, -1, 3, 1);
        Check.due("all are in the set", check.x.inClass(0, 1), true);
        due(check, Integer.MIN_VALUE | 1, 3, 1);
        due(check, 2 | 8 | 128 | 1 << 16, 3, 1);
        Check.due("not in the set", check.x.inClass(1, 0), false);
        Check.due("in the set", check.x.inClass(0, 1), true);
    }

    /** SAMPLES go upwards, in whatever order their VALUES are written or KNOWN, and have the same ones once. */
    private static void upwards() {
        Check check = Check.withNames();
        check.value("1.5", 2, 1);
        check.value("0.5", 2, 2);
        check.condition("v=='3' or v in['2','1','2.0','3.0.0']");
        check.condition("v=='1'");
        check.condition("v=='0.5'");
        check.condition("v>'1.5' and v<'2'");
        due(check, 15, 7, 1, 1, 1, 2);
    }

    /** Each of 6 names has 4 SAMPLES. */
    private static void sixNames() {
        Check check = new Check();
        for (int i = 0; i < 6; i++) {
            check.name(String.valueOf((char) ('a' + i)), i % 2, i);
        }
        check.condition("a<'1' and b=='1' and c>'1'");
        check.condition("d!='1' and e<'1' and f=='1'");
        due(check, 3, 63 * 61, 63 * 3, 61, 3);
        int[][] samples = {{0, 0, 0, 0, 0, 0}, {0, 0, 0, 0, 1, 2}, {1, 2, 3, 0, 0, 0}, {1, 2, 3, 0, 1, 2}};
        for (int k = 0; k < 4; k++) {
            for (int name = 0; name < 6; name++) {
                Check.due("sample of " + name + " in " + k, check.x.sample(k, name), samples[k][name]);
            }
        }
        check.value("2", 5, 1);
        check.condition("f<'1'");
        due(check, 4, 5, 1);
        Check.due("the last name", check.x.sample(1, 5), 1);
    }

    /** The answers stay the same for as many calls as an object is used for. */
    private static void again() {
        Check check = Check.withNames();
        check.condition("v in['3','2','1'] and a in['z','y','x'] or b<'m'");
        for (int i = 0; i < 100; i++) {
            due(check, 1, 4 * 8 * 8 - 64 - 3 * 9, 64 + 3 * 9);
        }
    }

    /** More than 512 calls make: eight texts full of VALUES, all of one name, and its KNOWN ones. */
    private static void fullOfValues() {
        Check check = new Check();
        check.name("v", 0, 0);
        for (int i = 0; i < 6; i++) {
            check.value("known" + i, 0, i + 1);
        }
        for (int c = 0; c < 8; c++) {
            StringBuilder text = new StringBuilder();
            for (int i = 0; i < 24; i++) {
                String value = "'" + (char) ('a' + c) + (char) ('a' + i) + "'";
                String before = i == 0 ? "v in[" : i % 6 == 0 ? "]or v in[" : ",";
                text.append(before).append(value);
            }
            check.condition(text.append("]").toString(), c);
        }
        Check.due("classes", check.x.classes(-1), 9);
        int sum = 0;
        for (int k = 0; k < 9; k++) {
            sum += check.x.many(k);
        }
        Check.due("choices", sum, 2 * (8 * 24 + 6) + 2);
    }

    /** Eight conditions make up to 256 CLASSES. */
    private static void most() {
        Check check = new Check();
        String[] names = {"a", "b", "c", "d"};
        for (int i = 0; i < 4; i++) {
            check.name(names[i], 0, i);
            check.condition(names[i] + "<'x'");
            check.condition(names[i] + "<='x' and " + names[i] + "!='y' or " + names[i] + "=='z'");
        }
        Check.due("classes of one name", check.x.classes(3), 3);
        Check.due("classes", check.x.classes(255), 81);
        int sum = 0;
        for (int k = 0; k < 81; k++) {
            sum += check.x.many(k);
        }
        Check.due("all choices", sum, 8 * 8 * 8 * 8);
        manyClasses();
    }

    private static void manyClasses() {
        Check check = new Check();
        String[] names = {"a", "b", "c", "d"};
        for (int i = 0; i < 4; i++) {
            check.name(names[i], 0, i);
            check.condition(names[i] + " in['1','2']");
            check.condition(names[i] + " in['2','3']");
        }
        Check.due("classes", check.x.classes(255), 256);
        Check.due("the first one's choices", check.x.many(0), 5 * 5 * 5 * 5);
        Check.due("the last one's", check.x.many(255), 1);
        Check.due("behind the last one", check.x.many(256), -1);
        int[] order = {0, 2, 4, 6};
        boolean[] one = {false, true, true, false};
        boolean[] other = {false, false, true, true};
        for (int k = 0; k < 256; k += 5) {
            for (int n = 0; n < 4; n++) {
                int digit = k >> 2 * (3 - n) & 3;
                Check.due("sample " + k + ", " + n, check.x.sample(k, n), order[digit]);
                Check.due("inClass " + k + ", " + 2 * n, check.x.inClass(k, 2 * n), one[digit]);
                Check.due("inClass " + k + ", " + (2 * n + 1), check.x.inClass(k, 2 * n + 1), other[digit]);
            }
        }
    }

    /** The latest classes() that was not NONE stays as it was, whatever comes behind it. */
    private static void kept() {
        Check check = Check.withNames();
        check.condition("a=='x'");
        due(check, -1, 3, 1);
        check.value("y", 0, 1);
        check.condition("b=='x'");
        check.name("w", 0, 3);
        check.give("x", 0);
        check.x.ever(1);
        check.x.implies(0, 1);
        check.x.apart(0, 1);
        Check.due("many", check.x.many(0), 3);
        Check.due("many", check.x.many(1), 1);
        Check.due("many", check.x.many(2), -1);
        Check.due("a condition that came later", check.x.inClass(0, 1), false);
        Check.due("a condition that came later", check.x.inClass(1, 1), false);
        Check.due("sample", check.x.sample(1, 0), 2);
        Check.due("a name that came later has no value", check.x.sample(1, 3), 0);
        due(check, 1, 5, 1);
    }

    private static void noSuch() {
        Check check = Check.withNames();
        check.condition("a=='x'");
        check.x.classes(1);
        for (int none : new int[] {-1, 2, 255, 256, 257, Integer.MAX_VALUE, Integer.MIN_VALUE}) {
            Check.due("many " + none, check.x.many(none), -1);
            Check.due("inClass " + none, check.x.inClass(none, 0), false);
            Check.due("sample " + none, check.x.sample(none, 0), -1);
        }
        for (int none : new int[] {-1, 1, 8, 32, -32, Integer.MAX_VALUE, Integer.MIN_VALUE}) {
            Check.due("inClass 1, " + none, check.x.inClass(1, none), false);
        }
        for (int none : new int[] {-1, 3, 6, 7, Integer.MAX_VALUE, Integer.MIN_VALUE}) {
            Check.due("sample 0, " + none, check.x.sample(0, none), -1);
        }
    }

    /** Names with 4, 4, 4 and 9 VALUES: 10 * 10 * 10 * 20 CHOICES. */
    private static Check atTheEdge() {
        Check check = new Check();
        for (int i = 0; i < 4; i++) {
            check.name(String.valueOf((char) ('a' + i)), 1, i);
        }
        check.condition("a in['1','2','3','4']");
        check.condition("b in['1','2','3','4']and c in['1','2','3','4']");
        check.condition("d in['1','2','3','4','5','6']or d in['6.0','7','8','9']");
        return check;
    }

    private static void twentyThousand() {
        Check check = atTheEdge();
        int all = check.condition("a<'1'and b<'1'and c<'1'and d<'1'");
        due(check, 15, 6 * 84 * 11 - 1, 6 * 84 * 9, 6 * 16 * 11, 6 * 16 * 9, 1, 4 * 84 * 11, 4 * 84 * 9, 4 * 16 * 11,
                4 * 16 * 9);
        for (int name = 0; name < 4; name++) {
            Check.due("all below", check.x.sample(4, name), 1);
        }
        Check.due("ever", check.x.ever(all), 1);
        check.value("5", 0, 1);
        Check.due("24000", check.x.classes(15), -1);
        Check.due("the edge stays", check.x.many(3), 6 * 16 * 9);
        Check.due("the edge stays", check.x.inClass(4, all), true);
        Check.due("without a", check.x.classes(6), 4);
    }

    private static void tooMany() {
        Check check = atTheEdge();
        int both = check.condition("a=='1'and b=='1'and c=='1'and d=='1'and(a=='2'or b=='2'or c=='2'or d=='2')");
        Check.due("few for it alone", check.x.ever(both), 0);
        for (int i = 1; i <= 4; i++) {
            check.value("2." + i, 0, i);
            check.value("2." + i, 1, i);
            check.value("2." + i, 2, i);
            check.value("2." + i, 3, i);
        }
        // 6 VALUES of each name: 14 * 14 * 14 * 14 CHOICES.
        Check.due("too many for it alone", check.x.ever(both), -1);
        Check.due("implies itself", check.x.implies(both, both), -1);
        Check.due("apart from itself", check.x.apart(both, both), -1);
        Check.due("implies", check.x.implies(0, both), -1);
        Check.due("implied", check.x.implies(both, 0), -1);
        Check.due("apart", check.x.apart(0, both), -1);
        Check.due("classes", check.x.classes(1 << both), -1);
        Check.due("no classes yet", check.x.many(0), -1);
        Check.due("another one alone", check.x.ever(0), 1);
        Check.due("two others", check.x.apart(0, 2), 0);
        Check.due("what is true in one environment needs no choices", check.x.holds(both), false);
    }
}
