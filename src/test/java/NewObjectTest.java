/** Promise 1: a new object has no names, conditions, values; and what each call says of such. */
public final class NewObjectTest {
    private static final int[] NUMBERS = {0, 1, -1, 5, 6, 7, 8, 31, 32, -32, Integer.MAX_VALUE, Integer.MIN_VALUE};

    public static void main(String[] args) {
        Check check = new Check();
        Check.due("place", check.x.place(), -1);
        for (int n : NUMBERS) {
            check.value("1", n, Check.ILLEGAL_ARGUMENT);
            check.give("1", n, Check.ILLEGAL_ARGUMENT);
            check.give("", n, Check.ILLEGAL_ARGUMENT);
            Check.due("holds " + n, check.x.holds(n), false);
            Check.due("ever " + n, check.x.ever(n), -1);
            Check.due("implies " + n, check.x.implies(n, n), -1);
            Check.due("apart " + n, check.x.apart(n, n), -1);
            Check.due("many " + n, check.x.many(n), -1);
            Check.due("inClass " + n, check.x.inClass(n, 0), false);
            Check.due("sample " + n, check.x.sample(n, 0), -1);
            Check.due("printed " + n, check.x.printed(n, 0), 0);
        }
        Check.due("classes of nothing", check.x.classes(-1), 1);
        Check.due("its one choice", check.x.many(0), 1);
        Check.due("no sample without names", check.x.sample(0, 0), -1);
        check.ill("a=='1'", 0);
        objectsAreApart();
        Check.end();
    }

    private static void objectsAreApart() {
        Check one = Check.withNames();
        one.condition("a=='1'");
        one.give("1", 0);
        one.type("left");
        Check other = new Check();
        other.name("a", 1, 0);
        Check.due("no condition of another object", other.x.ever(0), -1);
        other.condition("a=='1.0'", 0);
        Check.due("no value of another object", other.x.holds(0), false);
    }
}
