import java.lang.reflect.Field;
import java.lang.reflect.Method;
import java.lang.reflect.Modifier;
import java.nio.file.Files;
import java.nio.file.Path;
import java.util.ArrayList;
import java.util.List;
import java.util.Set;
import java.util.TreeSet;
import java.util.regex.Matcher;
import java.util.regex.Pattern;

/** The rules of LANGUAGE.md that can be seen in the text of the program. */
public final class LanguageTest {
    private static final String[] FORBIDDEN = {
        "\\bthrow\\b", "\\bthrows\\b", "\\btry\\b", "\\bcatch\\b", "\\bsynchronized\\b", "\\bassert\\b", "->", "::",
        "\\bpackage\\b", "Exact\\b", "\\bvar\\b", "\\bhashCode\\b", "\\btoString\\b", "static \\{",
        "\\bSystem\\.(?!arraycopy)", "\\bArrays\\.(?!copyOf|copyOfRange|fill)", "\\bprotected\\b",
        "\\bInteger\\.(?!bitCount)", "\\bLong\\.", "\\bMath\\.(?!min|max|abs)", "[^\\x00-\\x7f]"};

    public static void main(String[] args) throws Exception {
        String source = Files.readString(Path.of("src/main/java/TalkGrid.java"));
        String code = source.replaceAll("(?s)/\\*.*?\\*/", "").replaceAll("//[^\\n]*", "");
        for (String word : FORBIDDEN) {
            Check.that("without " + word, !Pattern.compile(word).matcher(code).find());
        }
        Matcher imports = Pattern.compile("import [^;]*;").matcher(code);
        while (imports.find()) {
            Check.that(imports.group(), imports.group().equals("import java.util.Arrays;"));
        }
        Matcher classes = Pattern.compile("\\b(class|record|enum|interface) [A-Z]").matcher(code);
        int many = 0;
        while (classes.find()) {
            many++;
        }
        Check.that("at most twelve classes", many <= 12);
        lengths(source);
        shapes();
        Check.finish();
    }

    private static void shapes() {
        Set<String> face = new TreeSet<>();
        for (Method m : TalkGrid.class.getMethods()) {
            face.add(m.getName());
        }
        List<Class<?>> all = new ArrayList<>(List.of(TalkGrid.class.getDeclaredClasses()));
        for (Class<?> inside : all) {
            Check.that(inside + " is static", Modifier.isStatic(inside.getModifiers()));
            Check.that(inside + " has no classes inside", inside.getDeclaredClasses().length == 0);
            for (Method m : inside.getDeclaredMethods()) {
                Check.that(m + " bears no public method's name", !face.contains(m.getName()));
            }
        }
        all.add(TalkGrid.class);
        for (Class<?> one : all) {
            int fields = 0;
            for (Field f : one.getDeclaredFields()) {
                fields += Modifier.isStatic(f.getModifiers()) ? 0 : 1;
                Check.that(f + " is final if static", Modifier.isFinal(f.getModifiers()) || !Modifier.isStatic(f.getModifiers()));
            }
            Check.that(one + " has at most twenty fields", fields <= 20);
            for (Method m : one.getDeclaredMethods()) {
                Check.that(m + " takes at most seven", m.getParameterCount() <= 7);
            }
        }
    }

    private static void lengths(String source) {
        String[] lines = source.split("\n");
        int from = -1;
        String indent = "";
        for (int i = 0; i < lines.length; i++) {
            if (from < 0 && lines[i].matches("( {4}| {8})[A-Za-z].*\\(.*\\{") && !lines[i].contains(" class ")) {
                from = i;
                indent = lines[i].replaceAll("\\S.*", "");
            } else if (from >= 0 && lines[i].equals(indent + "}")) {
                Check.that("short: " + lines[from].trim(), i - from < 60);
                from = -1;
            }
        }
    }
}
