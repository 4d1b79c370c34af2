import java.lang.reflect.Method;
import java.lang.reflect.Modifier;
import java.nio.file.Files;
import java.nio.file.Path;
import java.util.Set;
import java.util.TreeSet;
import java.util.regex.Matcher;
import java.util.regex.Pattern;
import java.util.stream.Stream;

// What README.md shows is read from it and asked of the class, so that neither changes without the other.
public final class HiveYardReadme {
    private static final Path README = Path.of("README.md");
    private static final Path TESTS = Path.of("src/test/java");
    private static final Path CI = Path.of(".ci/run");
    private static final Pattern CODE = Pattern.compile("(?ms)^```(\\w*)\n(.*?)^```$");
    private static final Pattern CALL = Pattern.compile("yard\\.(\\w+)\\(([^()]*)\\);\\s+// ([^:]+)(: .+)?");
    private static final Pattern LEAST_LONG = Pattern.compile("Long\\.MIN_VALUE(?: \\+ (\\d+))?");
    private static final Pattern TEST_NAMED = Pattern.compile("(?m)^- `src/test/java/(\\w+\\.java)`");
    private static final String NEW_YARD = "HiveYard yard = new HiveYard();";
    private static final int MOST_CALLS = 512;

    private static int wrong = 0;

    private static void due(String what, Object got, Object want) {
        if (!got.equals(want)) {
            wrong++;
            System.out.println("README.md: " + what + " is " + got + ", due is " + want);
        }
    }

    public static void main(String[] args) throws Exception {
        String readme = Files.readString(README);
        shownCalls(readme);
        wayToRunTests(readme);
        System.out.println(wrong == 0 ? "README.md is as the class is" : wrong + " things are not as due");
        if (wrong != 0) {
            System.exit(1);
        }
    }

    private static void shownCalls(String readme) throws Exception {
        Set<String> shown = new TreeSet<>();
        Matcher code = CODE.matcher(readme);
        while (code.find()) {
            if (code.group(1).equals("java")) {
                runOfCalls(code.group(2).split("\n"), shown);
            }
        }
        Set<String> face = new TreeSet<>();
        for (Method m : HiveYard.class.getDeclaredMethods()) {
            if (Modifier.isPublic(m.getModifiers())) {
                face.add(m.getName());
            }
        }
        due("the set of methods that it shows", shown, face);
    }

    private static void runOfCalls(String[] lines, Set<String> shown) throws Exception {
        due("the first line of a run", lines[0], NEW_YARD);
        due("a run of at most 512 calls", lines.length - 1 <= MOST_CALLS, true);
        HiveYard yard = new HiveYard();
        for (int k = 1; k < lines.length; k++) {
            Matcher call = CALL.matcher(lines[k]);
            if (call.matches()) {
                shown.add(call.group(1));
                due(lines[k], answer(yard, call.group(1), call.group(2).split(", ")), number(call.group(3)));
            } else {
                due("a line without a call and its answer", lines[k], "");
            }
        }
    }

    private static Object answer(HiveYard yard, String name, String[] words) throws Exception {
        for (Method m : HiveYard.class.getDeclaredMethods()) {
            if (m.getName().equals(name) && m.getParameterCount() == words.length) {
                return ((Number) m.invoke(yard, arguments(m.getParameterTypes(), words))).longValue();
            }
        }
        return "no such method";
    }

    private static Object[] arguments(Class<?>[] types, String[] words) {
        Object[] values = new Object[words.length];
        for (int k = 0; k < words.length; k++) {
            if (types[k] == boolean.class) {
                values[k] = words[k].equals("true");
                due("a boolean", words[k], values[k].toString());
            } else {
                values[k] = Integer.parseInt(words[k]);
            }
        }
        return values;
    }

    private static long number(String text) {
        if (text.equals("HiveYard.BAD")) {
            return HiveYard.BAD;
        }
        Matcher least = LEAST_LONG.matcher(text);
        if (least.matches()) {
            return Long.MIN_VALUE + (least.group(1) == null ? 0 : Long.parseLong(least.group(1)));
        }
        return Long.parseLong(text);
    }

    private static void wayToRunTests(String readme) throws Exception {
        String commands = "";
        Matcher code = CODE.matcher(readme);
        while (code.find()) {
            if (code.group(1).equals("sh")) {
                commands += code.group(2);
            }
        }
        due("the way to run the tests", commands, CI + "\n");
        due(CI + " can be run", Files.isExecutable(CI), true);
        Set<String> named = new TreeSet<>();
        Matcher test = TEST_NAMED.matcher(readme);
        while (test.find()) {
            named.add(test.group(1));
        }
        Set<String> there = new TreeSet<>();
        try (Stream<Path> files = Files.list(TESTS)) {
            files.forEach(file -> there.add(file.getFileName().toString()));
        }
        due("the list of tests", named, there);
    }
}
