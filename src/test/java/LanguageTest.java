import java.io.IOException;
import java.lang.reflect.Constructor;
import java.lang.reflect.Field;
import java.lang.reflect.Method;
import java.lang.reflect.Modifier;
import java.nio.file.Files;
import java.nio.file.Path;
import java.util.ArrayList;
import java.util.List;
import java.util.Map;
import java.util.Set;
import java.util.TreeMap;
import java.util.TreeSet;
import java.util.regex.Matcher;
import java.util.regex.Pattern;

/** The face by reflection, and what LANGUAGE.md leaves out by words. Run from the project's directory. */
public final class LanguageTest {
    private static final Check check = new Check();

    private static final Set<String> FACE = Set.of("act(5)", "turn(1)", "play(2)", "told(2)", "register(2)", "cell(1)",
        "lazy(1)", "size(1)", "item(2)", "frozen(1)", "put(2)", "writes(0)", "write(2)", "again(0)", "clear(0)");

    public static void main(String[] args) throws IOException {
        face();
        insideClasses();
        String source = withoutComments(Files.readString(Path.of("src/main/java/MutableCells.java")));
        words(source);
        methods(source);
        check.finish();
    }

    private static void face() {
        Class<?> it = MutableCells.class;
        check.holds("public and final", Modifier.isPublic(it.getModifiers()) && Modifier.isFinal(it.getModifiers()));
        Set<String> open = new TreeSet<>();
        for (Method method : it.getDeclaredMethods()) {
            if (method.isSynthetic()) {
                continue;
            }
            if (!Modifier.isPrivate(method.getModifiers())) {
                open.add(method.getName() + "(" + method.getParameterCount() + ")");
                check.holds(method + " answers an int of ints", method.getReturnType() == int.class
                    && List.of(method.getParameterTypes()).stream().allMatch(type -> type == int.class));
            }
        }
        check.holds("the methods are " + open, open.equals(new TreeSet<>(FACE)));
        Set<String> constants = new TreeSet<>();
        for (Field field : it.getDeclaredFields()) {
            if (!field.isSynthetic() && !Modifier.isPrivate(field.getModifiers())) {
                constants.add(field.getName());
            }
            check.holds(field + ": static fields are final",
                !Modifier.isStatic(field.getModifiers()) || Modifier.isFinal(field.getModifiers()));
        }
        check.holds("the constants are " + constants, constants.equals(Set.of("NONE", "OUTSIDE", "STATE", "ROOM")));
        Constructor<?>[] constructors = it.getDeclaredConstructors();
        check.holds("one constructor", constructors.length == 1 && constructors[0].getParameterCount() == 0);
    }

    private static void insideClasses() {
        Set<String> names = new TreeSet<>();
        for (String method : FACE) {
            names.add(method.substring(0, method.indexOf('(')));
        }
        List<Class<?>> classes = new ArrayList<>(List.of(MutableCells.class.getDeclaredClasses()));
        check.holds("at most twelve classes", classes.size() < 12);
        for (Class<?> inside : classes) {
            int modifiers = inside.getModifiers();
            check.holds(inside + " is static", Modifier.isStatic(modifiers));
            check.holds(inside + " is not open", !Modifier.isPublic(modifiers) && !Modifier.isProtected(modifiers));
            check.holds(inside + " has at most twenty fields", inside.getDeclaredFields().length <= 20);
            for (Method method : inside.getDeclaredMethods()) {
                check.holds(method + " bears no name of the face", !names.contains(method.getName()));
                check.holds(method + " takes at most seven", method.getParameterCount() <= 7);
            }
        }
    }

    private static String withoutComments(String source) {
        return source.replaceAll("(?s)/\\*.*?\\*/", "").replaceAll("//[^\n]*", "");
    }

    private static void words(String source) {
        for (String word : List.of("try", "catch", "finally", "throw", "throws", "synchronized", "assert", "package", "protected",
            "volatile", "transient", "native", "Math", "System\\.(?!arraycopy)", "Object", "Thread", "Exact", "float", "double")) {
            check.holds("no " + word, !Pattern.compile("\\b" + word + (word.endsWith(")") ? "" : "\\b")).matcher(source).find());
        }
        check.holds("no lambda", !source.contains("->"));
        check.holds("no texts", !source.contains("\""));
        check.holds("no method reference", !source.contains("::"));
        check.holds("no static block", !Pattern.compile("static\\s*\\{").matcher(source).find());
        Matcher imports = Pattern.compile("import ([\\w.*]+);").matcher(source);
        while (imports.find()) {
            check.holds("import of " + imports.group(1), imports.group(1).equals("java.util.Arrays"));
        }
        check.holds("only written signs", source.chars().allMatch(sign -> sign == '\n' || sign >= 32 && sign < 127));
        objectsAreMadeAtFirstOnly(source);
    }

    /** What calls make would be counted for all calls of a run: so each "new" is a field's, or the constructor's. */
    private static void objectsAreMadeAtFirstOnly(String source) {
        for (String line : source.split("\n")) {
            if (line.contains("new ")) {
                check.holds(line.trim(), line.contains("private final ") || line.contains("strands[i] = new Strand(i);"));
            }
        }
    }

    private static final Pattern HEADER = Pattern.compile("( +)(?:(?:public|private|static|final) )*(?:[\\w\\[\\]]+ )?(\\w+)\\(.*\\) \\{");
    private static final Set<String> NO_METHODS = Set.of("if", "for", "while", "switch");

    /** Methods by their names; those of one name are taken together, which can only make calls look deeper. */
    private static void methods(String source) {
        Map<String, String> bodies = new TreeMap<>();
        String[] lines = source.split("\n");
        for (int i = 0; i < lines.length; i++) {
            Matcher header = HEADER.matcher(lines[i]);
            if (!header.matches() || NO_METHODS.contains(header.group(2))) {
                continue;
            }
            StringBuilder body = new StringBuilder();
            int first = i;
            for (i++; i < lines.length && !lines[i].equals(header.group(1) + "}"); i++) {
                body.append(lines[i]).append('\n');
            }
            check.holds(header.group(2) + " is short: " + (i - first), i - first <= 60);
            bodies.merge(header.group(2), body.toString(), String::concat);
        }
        for (String call : FACE) {
            String name = call.substring(0, call.indexOf('('));
            check.holds(name + " was found", bodies.containsKey(name));
        }
        for (String name : bodies.keySet()) {
            int deep = depth(name, bodies, 0);
            check.holds(name + " calls at most eight deep: " + deep, deep <= 8);
        }
    }

    private static int depth(String name, Map<String, String> bodies, int above) {
        int deepest = 0;
        Matcher call = Pattern.compile("\\b(\\w+)\\(").matcher(bodies.get(name));
        // The class has no recursion: what goes on beyond twenty is one, and need not be followed.
        while (above < 20 && call.find()) {
            if (bodies.containsKey(call.group(1))) {
                deepest = Math.max(deepest, depth(call.group(1), bodies, above + 1));
            }
        }
        return deepest + 1;
    }
}
