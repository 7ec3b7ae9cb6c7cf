import java.lang.reflect.Constructor;
import java.lang.reflect.Field;
import java.lang.reflect.Method;
import java.lang.reflect.Modifier;
import java.nio.file.Files;
import java.nio.file.Path;
import java.util.ArrayList;
import java.util.Arrays;
import java.util.HashSet;
import java.util.List;
import java.util.Map;
import java.util.Set;
import java.util.TreeMap;
import java.util.TreeSet;
import java.util.regex.Matcher;
import java.util.regex.Pattern;

/** The public face, to the letter, and the rules of LANGUAGE.md that a program can look at. */
public final class FaceTest {
    private static final Path SOURCE = Path.of("src/main/java/TurnVoice.java");
    private static final String[] METHODS = {
        "int type(int)", "int clear()", "int town()", "int road(int,int)", "int place(int)", "int now(int)",
        "int takes(int)", "int jams(int,int)", "int shuts(int,int)", "int undo()", "int way(int)", "int round()",
        "int on(int)", "int worst(int)", "int plans(int)", "int drops()", "int his(int)", "int cars(int,int)",
        "int tunnel(int)", "int saw(int,int)", "int forget()", "int where(int)", "int which(int,int)",
        "long odds(int,int,int)", "int rate(int,int)", "int keep(int)", "int back(int)", "int count(int)",
        "long trace()"};
    private static final String[] CONSTANTS = {"BAD -1", "STATE -2", "FULL -3", "NONE -9", "NO -1000000"};
    private static final String FORBIDDEN = "\\b(throw|throws|try|catch|finally|synchronized|assert|import|package"
        + "|System\\.(?!arraycopy)|Thread|Object|hashCode|toString|volatile|native|transient|double|float)\\b|->|::|\\w+Exact\\(";
    private static final Due due = new Due();

    public static void main(String[] args) throws Exception {
        face();
        for (Class<?> one : classes()) {
            membersOf(one);
        }
        source();
        due.end();
    }

    private static List<Class<?>> classes() {
        List<Class<?>> all = new ArrayList<>();
        all.add(TurnVoice.class);
        all.addAll(Arrays.asList(TurnVoice.class.getDeclaredClasses()));
        return all;
    }

    private static void face() throws IllegalAccessException {
        Set<String> methods = new TreeSet<>();
        for (Method method : TurnVoice.class.getDeclaredMethods()) {
            if (!Modifier.isPrivate(method.getModifiers())) {
                due.holds(method + " is public and no more", method.getModifiers() == Modifier.PUBLIC);
                String types = String.join(",", Arrays.stream(method.getParameterTypes()).map(Class::getName).toList());
                methods.add(method.getReturnType() + " " + method.getName() + "(" + types + ")");
            }
        }
        due.holds("the methods are the document's: " + methods, methods.equals(new TreeSet<>(Arrays.asList(METHODS))));
        Set<String> constants = new TreeSet<>();
        for (Field field : TurnVoice.class.getDeclaredFields()) {
            if (!Modifier.isPrivate(field.getModifiers())) {
                due.holds(field + " is an int constant", field.toString().startsWith("public static final int "));
                constants.add(field.getName() + " " + field.getInt(null));
            }
        }
        due.holds("the constants are the document's: " + constants, constants.equals(new TreeSet<>(Arrays.asList(CONSTANTS))));
        Constructor<?>[] constructors = TurnVoice.class.getDeclaredConstructors();
        due.holds("one constructor", constructors.length == 1 && constructors[0].getParameterCount() == 0
            && Modifier.isPublic(constructors[0].getModifiers()));
        due.holds("public and final", TurnVoice.class.getModifiers() == (Modifier.PUBLIC | Modifier.FINAL));
        due.holds("twelve classes at most", classes().size() <= 12);
    }

    private static void membersOf(Class<?> one) {
        Set<String> names = new HashSet<>();
        for (String method : METHODS) {
            names.add(method.replaceAll("^\\w+ (\\w+).*", "$1"));
        }
        for (Method method : one.getDeclaredMethods()) {
            boolean isFace = one == TurnVoice.class && Modifier.isPublic(method.getModifiers());
            due.holds(method + " has a name of its own", isFace || !names.contains(method.getName()));
            due.holds(method + " has seven parameters at most", method.getParameterCount() <= 7);
        }
        int fields = 0;
        for (Field field : one.getDeclaredFields()) {
            if (Modifier.isStatic(field.getModifiers())) {
                due.holds(field + " is final", Modifier.isFinal(field.getModifiers()));
            } else {
                fields++;
            }
        }
        due.holds(one + " has twenty fields at most", fields <= 20);
        due.holds(one + " is static", one == TurnVoice.class || Modifier.isStatic(one.getModifiers()));
    }

    private static void source() throws Exception {
        String source = Files.readString(SOURCE);
        due.holds("signs 1 to 127", source.chars().allMatch(sign -> sign < 128));
        String code = source.replaceAll("(?s)/\\*.*?\\*/", "").replaceAll("//[^\n]*", "");
        Pattern forbidden = Pattern.compile(FORBIDDEN);
        for (String line : code.split("\n")) {
            due.holds("nothing forbidden in: " + line.trim(), !forbidden.matcher(line).find());
        }
        methods(code.split("\n"));
    }

    /** By the indentation of the file: a method's head and its end stand alike far in. */
    private static void methods(String[] lines) {
        Pattern head = Pattern.compile("^(?: {4}| {8})[\\w\\[\\] ]+ (\\w+)\\([^;]*\\) \\{$");
        Map<String, Set<String>> calls = new TreeMap<>();
        for (int i = 0; i < lines.length; i++) {
            Matcher found = head.matcher(lines[i]);
            if (found.find() && !lines[i].trim().matches("(if|for|while|switch).*")) {
                String end = lines[i].replaceAll("\\S.*", "") + "}";
                int last = i;
                while (last < lines.length - 1 && !lines[last].equals(end)) {
                    last++;
                }
                due.holds("short: " + lines[i].trim(), last - i < 60);
                Set<String> called = calls.computeIfAbsent(found.group(1), name -> new TreeSet<>());
                called.addAll(calledIn(String.join("\n", Arrays.asList(lines).subList(i + 1, last))));
            }
        }
        due.holds("the face's methods are seen", calls.size() > METHODS.length);
        for (String name : calls.keySet()) {
            int depth = depthOf(name, calls, new HashSet<>());
            due.holds(name + " goes eight deep at most, not " + depth, depth <= 8);
        }
    }

    private static Set<String> calledIn(String body) {
        Set<String> called = new TreeSet<>();
        Matcher call = Pattern.compile("(\\w+)\\(").matcher(body);
        while (call.find()) {
            called.add(call.group(1));
        }
        return called;
    }

    /** By names alone; a method that calls itself counts once. */
    private static int depthOf(String name, Map<String, Set<String>> calls, Set<String> open) {
        if (!calls.containsKey(name) || !open.add(name)) {
            return 0;
        }
        int deepest = 0;
        for (String called : calls.get(name)) {
            deepest = Math.max(deepest, depthOf(called, calls, open));
        }
        open.remove(name);
        return deepest + 1;
    }
}
