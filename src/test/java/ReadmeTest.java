import java.io.IOException;
import java.lang.reflect.InvocationTargetException;
import java.lang.reflect.Method;
import java.lang.reflect.Modifier;
import java.nio.file.DirectoryStream;
import java.nio.file.Files;
import java.nio.file.Path;
import java.util.Map;
import java.util.regex.Matcher;
import java.util.regex.Pattern;

/** Whether README.md tells the truth: its run answers what it says, and it names every call, constant and test. */
public final class ReadmeTest {
    private static final Pattern ROW = Pattern.compile("desk\\.(\\w+)\\(([^)]*)\\);\\s*// (-?\\w+)(:.*)?");
    private static final Map<String, Integer> CONSTANTS = Map.of("NONE", TalkGrid.NONE, "RANGE", TalkGrid.RANGE,
            "FULL", TalkGrid.FULL, "STATE", TalkGrid.STATE);

    public static void main(String[] args) throws IOException, IllegalAccessException, InvocationTargetException {
        String page = Files.readString(Path.of("README.md"));
        playRun(page);
        namesEachCall(page);
        namesEachTest(page);
        CONSTANTS.forEach((name, number) -> Check.that("README.md tells " + name + " as " + number,
                page.contains("| `" + name + "` | " + number + " |")));
        Check.finish();
    }

    private static void playRun(String page) throws IllegalAccessException, InvocationTargetException {
        TalkGrid desk = new TalkGrid();
        int rows = 0;
        for (String line : page.split("\n")) {
            if (line.startsWith("desk.")) {
                Matcher row = ROW.matcher(line);
                Check.that("a row of README.md is a call with its answer: " + line, row.matches());
                if (row.matches()) {
                    rows++;
                    Check.due("README.md: " + line, call(desk, row.group(1), row.group(2)), number(row.group(3)));
                }
            }
        }
        Check.that("README.md has a run of calls", rows > 40);
    }

    private static int call(TalkGrid desk, String name, String args)
            throws IllegalAccessException, InvocationTargetException {
        Method method = methodOf(name);
        Check.that("there is a call " + name, method != null);
        if (method == null) {
            return 0;
        }
        String[] texts = args.isEmpty() ? new String[0] : args.split(", ");
        Object[] values = new Object[texts.length];
        for (int i = 0; i < texts.length; i++) {
            boolean isTruth = method.getParameterTypes()[i] == boolean.class;
            values[i] = isTruth ? (Object) Boolean.valueOf(texts[i]) : (Object) number(texts[i]);
        }
        return (Integer) method.invoke(desk, values);
    }

    private static Method methodOf(String name) {
        for (Method method : TalkGrid.class.getDeclaredMethods()) {
            if (Modifier.isPublic(method.getModifiers()) && method.getName().equals(name)) {
                return method;
            }
        }
        return null;
    }

    private static int number(String text) {
        return CONSTANTS.containsKey(text) ? CONSTANTS.get(text) : Long.decode(text).intValue();
    }

    private static void namesEachCall(String page) {
        for (Method method : TalkGrid.class.getDeclaredMethods()) {
            if (Modifier.isPublic(method.getModifiers())) {
                String name = method.getName();
                Check.that("README.md names " + name + " among the calls", page.contains("`" + name + "`"));
                Check.that("README.md shows a call of " + name, page.contains("desk." + name + "("));
            }
        }
    }

    private static void namesEachTest(String page) throws IOException {
        try (DirectoryStream<Path> files = Files.newDirectoryStream(Path.of("src/test/java"), "*.java")) {
            for (Path file : files) {
                String name = file.getFileName().toString().replace(".java", "");
                Check.that("README.md names " + name, page.contains("`" + name));
            }
        }
    }
}
