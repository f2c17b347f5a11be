import java.io.IOException;
import java.lang.reflect.Method;
import java.lang.reflect.Modifier;
import java.nio.charset.StandardCharsets;
import java.nio.file.DirectoryStream;
import java.nio.file.Files;
import java.nio.file.Path;
import java.util.ArrayList;
import java.util.List;
import java.util.Set;
import java.util.TreeSet;
import java.util.regex.Matcher;
import java.util.regex.Pattern;

/** README.md: that its example answers as it says, and that its tables name what there is. Run from the project's folder. */
final class ReadmeTest {
    private static final Pattern TYPED = Pattern.compile(
        "for \\(char c : \"([^\"]*)\"\\.toCharArray\\(\\)\\) cocks\\.type\\(c\\);");
    private static final Pattern CALL = Pattern.compile("cocks\\.(\\w+)\\(([-0-9, ]*)\\); *// (-?\\d+): .*");
    private static final Pattern ROW = Pattern.compile("\\| (`[^|]*`) \\|.*");
    private static final Pattern NAME = Pattern.compile("`(\\w+)`");

    public static void main(String[] args) throws IOException, ReflectiveOperationException {
        List<String> lines = Files.readAllLines(Path.of("README.md"), StandardCharsets.UTF_8);
        example(lines);
        tables(lines);
        Due.end("ReadmeTest");
    }

    private static void example(List<String> lines) throws ReflectiveOperationException {
        int begin = lines.indexOf("```java") + 1;
        int end = begin + lines.subList(begin, lines.size()).indexOf("```");
        Due.isTrue("README.md has an example", 0 < begin && begin < end);
        Due.isTrue("it begins with a new object", lines.get(begin).equals("AskedCocks cocks = new AskedCocks();"));
        AskedCocks cocks = new AskedCocks();
        for (String line : lines.subList(begin + 1, end)) {
            Matcher typed = TYPED.matcher(line);
            Matcher call = CALL.matcher(line);
            if (typed.matches()) {
                Due.typeAll(cocks, typed.group(1));
            } else if (call.matches()) {
                Due.is(line, answer(cocks, call.group(1), call.group(2)), Long.parseLong(call.group(3)));
            } else {
                Due.isTrue("a line that can be run: " + line, false);
            }
        }
    }

    private static long answer(AskedCocks cocks, String name, String arguments) throws ReflectiveOperationException {
        List<Object> numbers = new ArrayList<>();
        for (String number : arguments.split(", *")) {
            if (!number.isEmpty()) numbers.add(Integer.valueOf(number));
        }
        Class<?>[] types = new Class<?>[numbers.size()];
        for (int i = 0; i < types.length; i++) types[i] = int.class;
        Object answer = AskedCocks.class.getMethod(name, types).invoke(cocks, numbers.toArray());
        return ((Number) answer).longValue();
    }

    private static void tables(List<String> lines) throws IOException {
        Set<String> there = new TreeSet<>();
        for (Method method : AskedCocks.class.getDeclaredMethods()) {
            if (Modifier.isPublic(method.getModifiers())) there.add(method.getName());
        }
        named("calls", lines, there);
        there.clear();
        there.add("AskedCocks");
        for (Class<?> inside : AskedCocks.class.getDeclaredClasses()) there.add(inside.getSimpleName());
        named("class", lines, there);
        there.clear();
        try (DirectoryStream<Path> tests = Files.newDirectoryStream(Path.of("src/test/java"), "*Test.java")) {
            for (Path test : tests) there.add(test.getFileName().toString().replace(".java", ""));
        }
        named("test", lines, there);
    }

    /** That the first column of the table below this heading names all that is there, each once, and nothing else. */
    private static void named(String heading, List<String> lines, Set<String> there) {
        List<String> found = new ArrayList<>();
        int at = 0;
        while (at < lines.size() && !lines.get(at).startsWith("| " + heading + " |")) at++;
        for (at += 2; at < lines.size() && ROW.matcher(lines.get(at)).matches(); at++) {
            Matcher row = ROW.matcher(lines.get(at));
            Matcher name = NAME.matcher(row.matches() ? row.group(1) : "");
            while (name.find()) found.add(name.group(1));
        }
        Set<String> once = new TreeSet<>(found);
        Due.isTrue("README.md names of the sort '" + heading + "' " + there + ", and not " + once, once.equals(there));
        Due.is("names of the sort '" + heading + "'", found.size(), there.size());
    }
}
