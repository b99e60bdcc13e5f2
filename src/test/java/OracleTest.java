import java.util.Random;

/** Runs of calls, drawn from fixed seeds, whose answers must be those of the model. */
public final class OracleTest {
    private static final int RUNS = 3000;
    private static final int CALLS = 512;
    private static final String[] NAMES = {"a", "b", "os", "py", "v", "abcdefgh", "or", "x1", "", "toolongname", "in"};
    private static final String[] VALUES = {"1", "1.0", "2", "1.2", "1.10", "0", "3.0.1", "x", "xy", "x.", "linux", "01",
        "", "1.", "9.9.9.9", "Q", "123456789", "999"};
    private static final String[] PIECES = {"true", "false", "not", "not ", "(", ")", " or ", " and ", "or", "and", " ",
        "a", "os", "v", "in", "[", "]", ",", "'", "==", "!=", "<", "=", ">", "!", "'1'", "'x'", "b ", "1", "X"};
    private static final String[] OPERATORS = {"==", "!=", "<", "<=", ">", ">="};

    private final Random random;
    private final MarkerText x = new MarkerText();
    private final Model model = new Model();
    private String typed = "";
    private int calls = 0;

    private OracleTest(long seed) {
        random = new Random(seed);
    }

    public static void main(String[] args) {
        for (int seed = 0; seed < RUNS; seed++) {
            new OracleTest(seed).run("seed " + seed + ": ");
        }
        Check.end();
    }

    private interface Call {
        Object made();
    }

    private void same(String what, Call ours, Call models) {
        calls++;
        Check.due(what, answer(ours), answer(models));
    }

    private static Object answer(Call call) {
        try {
            return call.made();
        } catch (IllegalArgumentException | IllegalStateException e) {
            return e.getClass().getSimpleName();
        }
    }

    private void run(String at) {
        for (int i = 0; i < 4; i++) {
            makeName(at);
        }
        for (int i = 0; i < CALLS && calls < CALLS - 60; i++) {
            step(at);
        }
    }

    private void step(String at) {
        int dice = random.nextInt(20);
        if (dice < 1) {
            makeName(at);
        } else if (dice < 4) {
            makeValue(at);
        } else if (dice < 10) {
            makeCondition(at);
        } else if (dice < 13) {
            give(at);
        } else if (dice < 17) {
            judge(at);
        } else {
            part(at);
        }
    }

    private void type(String text) {
        for (int i = 0; i < text.length(); i++) {
            boolean due = text.charAt(i) >= 32 && text.charAt(i) <= 126 && typed.length() < 160;
            calls++;
            Check.due("type", x.type(text.charAt(i)), due);
            typed += due ? String.valueOf(text.charAt(i)) : "";
        }
    }

    private String taken() {
        String text = typed;
        typed = "";
        return text;
    }

    private String one(String[] row) {
        return row[random.nextInt(row.length)];
    }

    private void makeName(String at) {
        type(one(NAMES));
        int kind = random.nextInt(12) == 0 ? 2 : random.nextInt(2);
        String text = taken();
        same(at + "name " + text, () -> x.name(kind), () -> model.name(text, kind));
    }

    private int aName() {
        return random.nextInt(8) - 1;
    }

    private int aCondition() {
        int count = model.conditions.size();
        return random.nextInt(15) == 0 || count == 0 ? random.nextInt(11) - 1 : random.nextInt(count);
    }

    private void makeValue(String at) {
        type(one(VALUES));
        int name = aName();
        String text = taken();
        same(at + "value " + text, () -> x.value(name), () -> model.value(text, name));
    }

    private void give(String at) {
        type(random.nextInt(5) == 0 ? "" : one(VALUES));
        int name = aName();
        String text = taken();
        same(at + "give " + text, () -> {
            x.give(name);
            return 0;
        }, () -> model.give(text, name));
        for (int c = -1; c < 9; c++) {
            int condition = c;
            same(at + "holds " + c, () -> x.holds(condition), () -> model.holds(condition));
        }
    }

    private void makeCondition(String at) {
        String drawn = random.nextInt(6) == 0 ? pieces() : spoilt(joined(random.nextInt(4)));
        type(drawn);
        String text = taken();
        same(at + "condition " + text, x::condition, () -> model.condition(text));
        same(at + "place of " + text, x::place, () -> model.place);
        if (model.place < 0) {
            int last = model.conditions.size() - 1;
            int i = random.nextInt(2 + text.length());
            same(at + "printed " + text, () -> x.printed(last, i), () -> model.printed(last, i));
            Check.due(at + "whole of " + text, line(last), model.conditions.get(last).printed());
        }
    }

    private String line(int condition) {
        StringBuilder line = new StringBuilder();
        for (int i = 0; x.printed(condition, i) != 0; i++) {
            line.append((char) x.printed(condition, i));
        }
        return line.toString();
    }

    private String pieces() {
        StringBuilder text = new StringBuilder();
        for (int i = random.nextInt(12); i > 0; i--) {
            text.append(one(PIECES));
        }
        return text.toString();
    }

    private String spoilt(String text) {
        int dice = random.nextInt(6);
        if (dice > 1 || text.isEmpty()) {
            return text;
        }
        int at = random.nextInt(text.length());
        return text.substring(0, at) + (dice == 0 ? one(PIECES) : "") + text.substring(Math.min(text.length(), at + 1));
    }

    private String joined(int depth) {
        if (depth == 0) {
            return leaf();
        }
        String left = joined(depth - 1);
        switch (random.nextInt(6)) {
            case 0:
                return "not " + left;
            case 1:
                return "(" + left + ")";
            case 2:
                return "(" + left + ")" + blank() + (random.nextBoolean() ? "and" : "or") + " "
                        + joined(random.nextInt(depth));
            case 3:
                return left + " " + (random.nextBoolean() ? "and" : "or") + blank() + "("
                        + joined(random.nextInt(depth)) + ")";
            default:
                return left + " " + (random.nextBoolean() ? "and" : "or") + " " + joined(random.nextInt(depth));
        }
    }

    private String blank() {
        return random.nextInt(3) == 0 ? " " : "";
    }

    private String leaf() {
        int dice = random.nextInt(10);
        if (dice == 0 || model.names.isEmpty()) {
            return random.nextBoolean() ? "true" : "false";
        }
        int name = random.nextInt(model.names.size());
        if (dice < 4) {
            StringBuilder list = new StringBuilder(model.names.get(name)).append(" in").append(blank()).append("[");
            int count = 1 + random.nextInt(random.nextInt(20) == 0 ? 8 : 3);
            for (int i = 0; i < count; i++) {
                list.append(i == 0 ? "" : ",").append(quoted(name)).append(blank());
            }
            return list.append("]").toString();
        }
        return model.names.get(name) + blank() + one(OPERATORS) + blank() + quoted(name);
    }

    private String quoted(int name) {
        String text = one(VALUES);
        for (int i = 0; i < 20 && !Model.isValue(model.kinds.get(name), text); i++) {
            text = one(VALUES);
        }
        return "'" + text + "'";
    }

    private void judge(String at) {
        int a = aCondition();
        int b = aCondition();
        same(at + "ever " + a, () -> x.ever(a), () -> model.ever(a));
        same(at + "implies " + a + " " + b, () -> x.implies(a, b), () -> model.implies(a, b));
        same(at + "apart " + a + " " + b, () -> x.apart(a, b), () -> model.apart(a, b));
        tellClasses(at);
    }

    private void part(String at) {
        int set = random.nextInt(5) == 0 ? random.nextInt() : random.nextInt(256) & random.nextInt(256);
        same(at + "classes " + set, () -> x.classes(set), () -> model.classes(set));
        tellClasses(at);
    }

    private void tellClasses(String at) {
        int count = model.parted == null ? 0 : model.parted.size();
        for (int i = 0; i < 4; i++) {
            int k = random.nextInt(count + 2) - 1;
            int name = aName();
            int c = random.nextInt(10) - 1;
            same(at + "many " + k, () -> x.many(k), () -> model.many(k));
            same(at + "sample " + k + " " + name, () -> x.sample(k, name), () -> model.sample(k, name));
            same(at + "inClass " + k + " " + c, () -> x.inClass(k, c), () -> model.inClass(k, c));
        }
    }
}
