import java.io.IOException;
import java.nio.file.Files;
import java.nio.file.Path;
import java.util.ArrayList;
import java.util.Arrays;
import java.util.List;
import java.util.regex.Matcher;
import java.util.regex.Pattern;
import java.util.stream.Stream;

/** README.md says what is so: its calls answer as it tells, its tables name every call and every test. */
public final class ReadmeTest {
    private static final String NEW = "ThreshedSound x = new ThreshedSound();";
    private static final Pattern CALL = Pattern.compile("x\\.(\\w+)\\((.*)\\); +// (-?\\d+)(: .*)?");
    private static final Calls REAL = new Calls(ThreshedSound.class);

    public static void main(String[] args) throws IOException {
        List<String> page = Files.readAllLines(Path.of("README.md"));
        Due.is("calls in examples", examples(page) > 40 ? 1 : 0, 1);
        callsAreNamed(page);
        testsAreNamed(page);
        commandsAreThere(page);
        Due.end();
    }

    /** Makes each call of the blocks of Java; answers how many there are. */
    private static int examples(List<String> page) {
        ThreshedSound x = null;
        boolean inside = false;
        int calls = 0;
        for (String line : page) {
            if (line.startsWith("```")) {
                inside = line.equals("```java");
            } else if (inside && line.equals(NEW)) {
                x = new ThreshedSound();
            } else if (inside) {
                Matcher call = CALL.matcher(line);
                boolean whole = call.matches();
                Due.is("a call and its answer: " + line, whole ? 1 : 0, 1);
                if (whole) {
                    Due.is(line, REAL.make(x, call.group(1), numbers(call.group(2))), Long.parseLong(call.group(3)));
                    calls++;
                }
            }
        }
        return calls;
    }

    private static Object[] numbers(String list) {
        List<Object> numbers = new ArrayList<>();
        for (String one : list.isEmpty() ? new String[0] : list.split(", ")) {
            numbers.add(one.startsWith("'") ? (int) one.charAt(1) : Integer.parseInt(one));
        }
        return numbers.toArray();
    }

    /** Each once, as the first thing of a row of the table. */
    private static void callsAreNamed(List<String> page) {
        List<String> named = new ArrayList<>();
        int from = page.indexOf("| calls | for |");
        for (int i = from + 2; from >= 0 && page.get(i).startsWith("| "); i++) {
            named.addAll(firstOfRow(page.get(i)));
        }
        Due.is("the calls of the face in their order: " + named, named.equals(Arrays.asList(Calls.NAMES)) ? 1 : 0, 1);
    }

    private static void testsAreNamed(List<String> page) throws IOException {
        List<String> named = new ArrayList<>();
        int from = page.indexOf("| test | promises |");
        for (int i = from + 2; from >= 0 && page.get(i).startsWith("| "); i++) {
            named.addAll(firstOfRow(page.get(i)));
        }
        try (Stream<Path> files = Files.list(Path.of("src/test/java"))) {
            List<String> there = new ArrayList<>();
            files.map(file -> file.getFileName().toString()).filter(name -> name.endsWith("Test.java"))
                .forEach(name -> there.add(name.replace(".java", "")));
            Due.is("as many tests as files", named.size(), there.size());
            Due.is("every test: " + there, named.containsAll(there) ? 1 : 0, 1);
        }
    }

    private static List<String> firstOfRow(String row) {
        return Arrays.asList(row.split(" *\\| *")[1].split(", "));
    }

    private static void commandsAreThere(List<String> page) {
        Due.is("all tests", page.contains(".ci/run") && Files.isExecutable(Path.of(".ci/run")) ? 1 : 0, 1);
        for (String line : page) {
            Matcher named = Pattern.compile("\\bsrc/[\\w/]+\\.java").matcher(line);
            while (named.find()) {
                Due.is("a file: " + named.group(), Files.exists(Path.of(named.group())) ? 1 : 0, 1);
            }
        }
    }
}
