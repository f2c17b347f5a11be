import java.io.IOException;
import java.lang.reflect.Constructor;
import java.lang.reflect.Field;
import java.lang.reflect.Method;
import java.lang.reflect.Modifier;
import java.nio.charset.StandardCharsets;
import java.nio.file.Files;
import java.nio.file.Path;
import java.util.Arrays;
import java.util.List;
import java.util.Map;
import java.util.Set;
import java.util.TreeMap;
import java.util.TreeSet;
import java.util.regex.Matcher;
import java.util.regex.Pattern;

/** The public face, and what of ../shared/LANGUAGE.md can be read off the source. The first argument: its path. */
final class LanguageTest {
    private static final String[] FACE = {
        "int type(int)", "int clear()", "int diocese()", "int roof(int)", "int cock(int,int)", "int one(int,int)",
        "int saw(int,int)", "int known(int)", "int hours(int)", "int builds(int,int)", "int asks(int)", "int undo()",
        "int now(int)", "int view(int,int)", "int blind(int)", "int most(int,int)",
        "int odds(int,int,int,int,int,int)", "int faced(int,int)", "int laws(int)", "int tryNext()",
        "int met(int,int)", "int ways(int)", "int falses(int)", "int forget()", "int mark(int,int)", "int keep(int)",
        "int back(int)", "int count(int)", "long trace()"};
    private static final Pattern METHOD = Pattern.compile("(?: {4}| {8})(?:public|private) .*?(\\w+)\\(.*\\) \\{");
    private static final Pattern CALL = Pattern.compile("\\b(\\w+)\\(");
    private static final Set<String> LIBRARY = Set.of("Arrays.fill", "System.arraycopy", "Math.abs", "Math.max",
        "Math.min", "Integer.bitCount");

    public static void main(String[] args) throws IOException {
        face();
        members(AskedCocks.class);
        for (Class<?> inside : AskedCocks.class.getDeclaredClasses()) {
            Due.isTrue(inside + " is static", Modifier.isStatic(inside.getModifiers()));
            Due.isTrue(inside + " is private", Modifier.isPrivate(inside.getModifiers()));
            members(inside);
        }
        Due.isTrue("some twelve classes", AskedCocks.class.getDeclaredClasses().length < 12);
        List<String> lines = Files.readAllLines(Path.of(args[0]), StandardCharsets.US_ASCII);
        source(lines);
        depth(lines);
        Due.end("LanguageTest");
    }

    private static void face() {
        Set<String> due = new TreeSet<>(Arrays.asList(FACE));
        Set<String> found = new TreeSet<>();
        for (Method method : AskedCocks.class.getDeclaredMethods()) {
            if (!Modifier.isPrivate(method.getModifiers())) found.add(signature(method));
        }
        Due.isTrue("the face " + found + " is " + due, found.equals(due));
        Set<String> constants = new TreeSet<>();
        for (Field field : AskedCocks.class.getDeclaredFields()) {
            if (Modifier.isPrivate(field.getModifiers())) continue;
            constants.add(field.getName());
            Due.is("modifiers of " + field, field.getModifiers(), Modifier.PUBLIC | Modifier.STATIC | Modifier.FINAL);
        }
        Due.isTrue("the constants " + constants, constants.equals(Set.of("BAD", "STATE", "FULL", "NONE", "NO")));
        Constructor<?>[] made = AskedCocks.class.getDeclaredConstructors();
        Due.is("constructors", made.length, 1);
        Due.is("parameters of it", made[0].getParameterCount(), 0);
        Due.isTrue("it is public", Modifier.isPublic(made[0].getModifiers()));
        Due.isTrue("the class is final", Modifier.isFinal(AskedCocks.class.getModifiers()));
    }

    private static String signature(Method method) {
        StringBuilder text = new StringBuilder(method.getReturnType() + " " + method.getName() + "(");
        for (Class<?> type : method.getParameterTypes()) {
            if (text.charAt(text.length() - 1) != '(') text.append(',');
            text.append(type);
        }
        return text.append(')').toString();
    }

    private static void members(Class<?> of) {
        Set<String> names = new TreeSet<>();
        for (String signature : FACE) names.add(signature.replaceAll("^.* |\\(.*$", ""));
        int fields = 0;
        for (Field field : of.getDeclaredFields()) {
            boolean isStatic = Modifier.isStatic(field.getModifiers());
            if (!isStatic) fields++;
            Due.isTrue(field + " is final if static", !isStatic || Modifier.isFinal(field.getModifiers()));
        }
        Due.isTrue("some twenty fields in " + of, fields <= 20);
        for (Method method : of.getDeclaredMethods()) {
            Due.isTrue(method + " has seven parameters at most", method.getParameterCount() <= 7);
            boolean isHidden = Modifier.isPrivate(method.getModifiers());
            Due.isTrue(method + " bears no public name", !isHidden || !names.contains(method.getName()));
        }
    }

    private static void source(List<String> lines) {
        int methodStart = 0;
        for (int i = 0; i < lines.size(); i++) {
            String line = lines.get(i).replaceAll("^\\s*/?\\*.*$|//.*$", "");
            String place = "line " + (i + 1) + ": ";
            Due.isTrue(place + "no word that is ruled out", !line.matches(
                ".*\\b(throw|throws|try|catch|finally|synchronized|assert|native|volatile|transient|yield|var|lambda)\\b.*"));
            Due.isTrue(place + "no lambda, no method reference", !line.contains("->") && !line.contains("::"));
            Due.isTrue(place + "no text", line.indexOf('"') < 0);
            Due.isTrue(place + "no import but Arrays", !line.startsWith("import") || line.equals("import java.util.Arrays;"));
            Due.isTrue(place + "made in fields and the constructor alone", !line.matches(".*\\bnew\\b.*")
                || line.matches(" {8}(private final .* = new .*| *[a-z]+ = new .*)"));
            library(place, line);
            if (line.matches("( {4}| {8})\\S.*\\{")) methodStart = i;
            if (line.matches("( {4}| {8})\\}") && lines.get(methodStart).contains("(")) {
                Due.isTrue(place + "a method of some sixty lines at most", i - methodStart <= 60);
            }
        }
    }

    /** By names alone, so that like names count as one: no deeper than it looks here. */
    private static void depth(List<String> lines) {
        Map<String, Set<String>> calls = new TreeMap<>();
        String method = null;
        for (String line : lines) {
            Matcher start = METHOD.matcher(line);
            if (start.matches()) {
                method = start.group(1);
                calls.computeIfAbsent(method, name -> new TreeSet<>());
            } else if (method != null) {
                Matcher call = CALL.matcher(line.replaceAll("//.*$", ""));
                while (call.find()) calls.get(method).add(call.group(1));
            }
            if (line.matches("( {4}| {8})\\}")) method = null;
        }
        Due.isTrue("methods are found", calls.size() > 50);
        for (String name : calls.keySet()) {
            Due.isTrue("calls from " + name + " go eight deep at most", depth(calls, name, 1) <= 8);
        }
    }

    /** Above eight, if they go round. */
    private static int depth(Map<String, Set<String>> calls, String name, int level) {
        int deepest = level;
        if (level > 8) return deepest;
        for (String called : calls.get(name)) {
            if (calls.containsKey(called)) deepest = Math.max(deepest, depth(calls, called, level + 1));
        }
        return deepest;
    }

    private static void library(String place, String line) {
        Matcher call = Pattern.compile("\\b(Arrays|System|Math|Integer|Long)\\.\\w+").matcher(line);
        while (call.find()) {
            if (!line.startsWith("import")) Due.isTrue(place + call.group(), LIBRARY.contains(call.group()));
        }
    }
}
