import java.io.IOException;
import java.lang.reflect.Method;
import java.lang.reflect.Modifier;
import java.nio.file.Files;
import java.nio.file.Path;

/** What README.md says under 'Use': its example answers as it says there, and it tells of each method. */
public final class UseTest {
    public static void main(String[] args) throws IOException {
        example();
        everyMethod(Files.readString(Path.of("README.md")));
        Check.end();
    }

    private static void example() {
        Check check = new Check();
        MarkerText x = check.x;
        check.name("os", 0, 0);
        check.name("py", 1, 1);
        check.value("3.9", 1, 1);
        check.condition("os=='linux' and(py>='3.8'or(not py<'4'))", 0);
        check.condition("os in['mac','bsd']", 1);
        check.ill("os=='linux", 10);
        check.give("linux", 0);
        check.give("3.10", 1);
        Check.due("holds c", x.holds(0), true);
        Check.due("holds d", x.holds(1), false);
        Check.due("ever c", x.ever(0), 1);
        Check.due("c implies d", x.implies(0, 1), 0);
        Check.due("c apart d", x.apart(0, 1), 1);
        Check.due("classes", x.classes(1 << 0 | 1 << 1), 3);
        Check.due("many", x.many(2), 7);
        Check.due("c in class 2", x.inClass(2, 0), true);
        Check.due("d in class 2", x.inClass(2, 1), false);
        Check.due("os in class 2", x.sample(2, 0), 4);
        Check.due("py in class 2", x.sample(2, 1), 0);
        Check.due("printed", check.printed(0), "os == 'linux' and (py >= '3.8' or not py < '4')");
    }

    private static void everyMethod(String readme) {
        for (Method method : MarkerText.class.getDeclaredMethods()) {
            if (Modifier.isPublic(method.getModifiers())) {
                Check.due(method.getName() + " in the example", readme.contains("x." + method.getName() + "("), true);
                Check.due(method.getName() + " in the table", readme.contains("| `" + method.getName() + "("), true);
            }
        }
    }
}
