import java.io.IOException;
import java.lang.reflect.Method;
import java.lang.reflect.Modifier;
import java.nio.file.Files;
import java.nio.file.Path;
import java.util.List;
import java.util.Map;
import java.util.TreeMap;
import java.util.regex.Matcher;
import java.util.regex.Pattern;
import java.util.stream.Stream;

/** What README.md says holds: its examples are done, call by call, and its tables are compared with the class. */
public final class ReadmeTest {
    private static final String MADE = "MutableCells m = new MutableCells();";
    /** A call; behind it, if a number follows the slashes, the answer that is due. */
    private static final Pattern CALL = Pattern.compile("m\\.(\\w+)\\(([-\\d, ]*)\\);(?:\\s*// (?:(-?\\d+)(?:: .*)?|.*))?");
    private static final Pattern KIND = Pattern.compile("\\| (\\d+) \\| (.*?) (?=\\|)");

    private static final Check check = new Check();
    private static final Map<String, Method> face = new TreeMap<>();

    public static void main(String[] args) throws IOException, ReflectiveOperationException {
        for (Method method : MutableCells.class.getDeclaredMethods()) {
            if (Modifier.isPublic(method.getModifiers())) {
                face.put(method.getName(), method);
            }
        }
        String text = Files.readString(Path.of("README.md"));
        List<String> lines = text.lines().toList();
        examples(lines);
        calls(lines);
        constants(text);
        kinds(lines);
        tests(text);
        check.finish();
    }

    private static void examples(List<String> lines) throws ReflectiveOperationException {
        MutableCells m = null;
        boolean inside = false;
        int made = 0;
        int compared = 0;
        for (String line : lines) {
            if (line.startsWith("```")) {
                inside = line.equals("```java");
                m = null;
            } else if (inside && line.equals(MADE)) {
                m = new MutableCells();
                made++;
            } else if (inside) {
                compared += example(m, line);
            }
        }
        check.holds("there are examples, and answers in them: " + made + ", " + compared, made >= 3 && compared >= 30);
    }

    /** How many answers were compared. */
    private static int example(MutableCells m, String line) throws ReflectiveOperationException {
        Matcher call = CALL.matcher(line);
        boolean known = call.matches() && face.containsKey(call.group(1)) && m != null;
        check.holds("a call of an object that was made: " + line, known);
        if (!known || call.group(3) == null) {
            return 0;
        }
        String inner = call.group(2).trim();
        Object[] numbers = inner.isEmpty() ? new Object[0] : Stream.of(inner.split(", *")).map(Integer::valueOf).toArray();
        int got = (Integer) face.get(call.group(1)).invoke(m, numbers);
        check.due("README: " + line, got, Integer.parseInt(call.group(3)));
        return 1;
    }

    /** Each call of the face has a row in the table, with as many numbers as it takes, and there are no others. */
    private static void calls(List<String> lines) {
        Map<String, Integer> told = new TreeMap<>();
        Pattern row = Pattern.compile("\\| `(\\w+)\\(([\\w, ]*)\\)` \\|.*");
        for (String line : lines) {
            Matcher call = row.matcher(line);
            if (call.matches()) {
                told.put(call.group(1), call.group(2).isEmpty() ? 0 : call.group(2).split(",").length);
            }
        }
        Map<String, Integer> due = new TreeMap<>();
        face.forEach((name, method) -> due.put(name, method.getParameterCount()));
        check.holds("the table of calls tells " + told, told.equals(due));
    }

    private static void constants(String text) {
        String said = "`NONE` is " + MutableCells.NONE + ", `OUTSIDE` " + MutableCells.OUTSIDE + ", `STATE` "
            + MutableCells.STATE + ", `ROOM` " + MutableCells.ROOM + ".";
        check.holds("README says: " + said, text.contains(said));
    }

    /** The table has each KIND that act() takes, once, and names nothing but x, y, z that are looked at by it. */
    private static void kinds(List<String> lines) {
        Map<Integer, String> told = new TreeMap<>();
        for (String line : lines) {
            Matcher kind = KIND.matcher(line);
            while (kind.find()) {
                String before = told.put(Integer.parseInt(kind.group(1)), kind.group(2));
                check.holds("told once: " + line, before == null);
            }
        }
        for (int kind = 0; kind < 30; kind++) {
            boolean taken = new MutableCells().act(0, kind, 0, 0, 0) == 1;
            check.holds("KIND " + kind + " is in the table", told.containsKey(kind) == taken);
            for (int which = 0; taken && which < 3; which++) {
                named(told.getOrDefault(kind, ""), kind, which);
            }
        }
    }

    // SET's y is the one number that names nothing, so it is said and not looked at.
    private static void named(String told, int kind, int which) {
        int[] xyz = new int[3];
        xyz[which] = -1;
        boolean looked = new MutableCells().act(0, kind, xyz[0], xyz[1], xyz[2]) == MutableCells.OUTSIDE;
        boolean said = Pattern.compile("\\b" + "xyz".charAt(which) + "\\b").matcher(told).find();
        check.holds("KIND " + kind + " and " + "xyz".charAt(which), said == (looked || kind == 0 && which == 1));
    }

    /** Each test of the project is told of, and each that is told of is there. */
    private static void tests(String text) throws IOException {
        try (Stream<Path> files = Files.list(Path.of("src/test/java"))) {
            for (Path file : files.toList()) {
                String name = file.getFileName().toString().replace(".java", "");
                check.holds("README tells of " + name, !name.endsWith("Test") || text.contains("`" + name + "`"));
            }
        }
        Matcher named = Pattern.compile("`(\\w+Test)`").matcher(text);
        while (named.find()) {
            check.holds(named.group(1) + " is there", Files.exists(Path.of("src/test/java", named.group(1) + ".java")));
        }
        check.holds(".ci/run can be run", Files.isExecutable(Path.of(".ci/run")));
    }
}
