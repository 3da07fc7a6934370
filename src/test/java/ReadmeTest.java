import java.io.IOException;
import java.lang.reflect.Method;
import java.nio.file.Files;
import java.nio.file.Path;
import java.util.ArrayList;
import java.util.List;
import java.util.TreeSet;
import java.util.regex.Matcher;
import java.util.regex.Pattern;
import java.util.stream.Stream;

/** README.md against the document, the class and the files that are here. */
public final class ReadmeTest {
    private static final Pattern FACE = Pattern.compile("public int (\\w+)\\(([^)]*)\\);");
    private static final Pattern ROW = Pattern.compile("(?m)^\\| `((\\w+)\\([^)]*\\))` \\|.*$");
    private static final Pattern CONSTANT = Pattern.compile("\\b(NONE|BAD|NOT|FULL)\\b");
    private static final Pattern ASKED = Pattern.compile(
            "(?m)^house\\.(\\w+)\\(([\\d, -]*)\\); *// (-?\\d+|NONE|BAD|NOT|FULL)\\b");

    private static int wrong = 0;

    public static void main(String[] args) throws Exception {
        String readme = Files.readString(Path.of("README.md"));
        String document = Files.readString(Path.of("../shared/DOC.md"));
        callsAreTold(readme, document);
        constantsAreTold(readme);
        runAnswersAsTold(readme);
        testsAreNamed(readme);
        tell(readme.contains("at most 512 calls"), "for how many calls an object is used");
        System.out.println(wrong == 0 ? "README.md is as due" : wrong + " things in README.md are not as due");
        if (wrong != 0) System.exit(1);
    }

    private static void tell(boolean holds, String what) {
        if (!holds) {
            wrong++;
            System.out.println("README.md: " + what);
        }
    }

    /** A row for each call of the face, in its order, with the constants of its promise and no others. */
    private static void callsAreTold(String readme, String document) {
        List<String> due = new ArrayList<>();
        Matcher face = FACE.matcher(document);
        while (face.find()) due.add(face.group(1) + "(" + face.group(2).replace("int ", "") + ")");
        tell(due.size() == 23, "23 calls were looked for in the document, but found were " + due.size());
        List<String> told = new ArrayList<>();
        Matcher row = ROW.matcher(readme);
        while (row.find()) {
            told.add(row.group(1));
            String promise = promiseOf(row.group(2), document);
            tell(constantsIn(row.group()).equals(constantsIn(promise)),
                    row.group(1) + " names " + constantsIn(row.group()) + ", its promise " + constantsIn(promise));
        }
        tell(told.equals(due), "rows are due for " + due + ", but there are " + told);
    }

    private static String promiseOf(String call, String document) {
        Matcher promise = Pattern.compile("(?s)## Promise \\d+: " + call + "\n(.*?)\n## ").matcher(document);
        return promise.find() ? promise.group(1) : "";
    }

    private static TreeSet<String> constantsIn(String text) {
        TreeSet<String> found = new TreeSet<>();
        Matcher constant = CONSTANT.matcher(text);
        while (constant.find()) found.add(constant.group());
        return found;
    }

    private static void constantsAreTold(String readme) throws ReflectiveOperationException {
        for (String name : new String[] {"NONE", "BAD", "NOT", "FULL"}) {
            tell(readme.contains("| " + valueOf(name) + " | `" + name + "` |"), "the number of " + name);
        }
    }

    private static int valueOf(String constant) throws ReflectiveOperationException {
        return FiddlePlates.class.getField(constant).getInt(null);
    }

    private static void runAnswersAsTold(String readme) throws ReflectiveOperationException {
        FiddlePlates house = new FiddlePlates();
        int calls = 0;
        Matcher asked = ASKED.matcher(readme);
        while (asked.find()) {
            calls++;
            String told = asked.group(3);
            int want = Character.isLetter(told.charAt(0)) ? valueOf(told) : Integer.parseInt(told);
            int got = answer(house, asked.group(1), asked.group(2));
            tell(got == want, asked.group() + ".. is told, but the answer is " + got);
        }
        int lines = readme.split("(?m)^house\\.", -1).length - 1;
        tell(calls > 0 && calls == lines, lines + " calls are in the run, but " + calls + " tell their answer");
    }

    private static int answer(FiddlePlates house, String name, String numbers) throws ReflectiveOperationException {
        Object[] given = Stream.of(numbers.split(",")).map(String::trim).filter(n -> !n.isEmpty())
                .map(Integer::valueOf).toArray();
        for (Method method : FiddlePlates.class.getDeclaredMethods()) {
            if (method.getName().equals(name) && method.getParameterCount() == given.length) {
                return (Integer) method.invoke(house, given);
            }
        }
        throw new NoSuchMethodException(name + " of " + given.length);
    }

    private static void testsAreNamed(String readme) throws IOException {
        List<Path> files;
        try (Stream<Path> all = Files.list(Path.of("src/test/java"))) {
            files = all.toList();
        }
        for (Path file : files) tell(readme.contains("`" + file + "`"), file + " is not named");
        Matcher named = Pattern.compile("`(src/test/java/\\w+\\.java)`").matcher(readme);
        while (named.find()) tell(files.contains(Path.of(named.group(1))), named.group(1) + " is named, but is not there");
        tell(readme.contains("`.ci/run`") && readme.contains("`../shared/tests`"), "how the tests are run");
    }
}
