import java.io.IOException;
import java.lang.reflect.Method;
import java.lang.reflect.Modifier;
import java.nio.file.DirectoryStream;
import java.nio.file.Files;
import java.nio.file.Path;
import java.util.regex.Matcher;
import java.util.regex.Pattern;

/** The example in README.md, run line by line as it stands there; and that README.md leaves out no call and no test. */
public final class ReadmeTest {
    private static final Due DUE = new Due();
    private static final Pattern CALL = Pattern.compile("x\\.(\\w+)\\((.*?)\\);\\s*// (-?\\d+|true|false)\\b.*");

    public static void main(String[] args) throws IOException, ReflectiveOperationException {
        String readme = Files.readString(Path.of("README.md"));
        example(between(readme, "```java\n", "```"));
        calls(readme);
        tests(readme);
        DUE.end();
    }

    private static String between(String text, String begin, String end) {
        int from = text.indexOf(begin);
        int to = text.indexOf(end, from + begin.length());
        DUE.yes("there is an example", from >= 0 && to > from);
        return from >= 0 && to > from ? text.substring(from + begin.length(), to) : "";
    }

    private static void example(String code) throws ReflectiveOperationException {
        String[] lines = code.split("\n");
        DUE.is("the first line", lines[0], "AskedBack x = new AskedBack();");
        AskedBack x = new AskedBack();
        for (int i = 1; i < lines.length; i++) {
            Matcher call = CALL.matcher(lines[i]);
            if (call.matches()) {
                DUE.is(lines[i], answered(x, call.group(1), call.group(2)), call.group(3));
            } else {
                DUE.is("a call with its answer", lines[i], "");
            }
        }
    }

    private static String answered(AskedBack x, String name, String list) throws ReflectiveOperationException {
        String[] texts = list.isEmpty() ? new String[0] : list.split(", ");
        Class<?>[] types = new Class<?>[texts.length];
        Object[] values = new Object[texts.length];
        for (int i = 0; i < texts.length; i++) {
            types[i] = int.class;
            values[i] = Integer.decode(texts[i]);
        }
        return String.valueOf(AskedBack.class.getMethod(name, types).invoke(x, values));
    }

    private static void calls(String readme) {
        for (Method method : AskedBack.class.getDeclaredMethods()) {
            if (Modifier.isPublic(method.getModifiers())) {
                DUE.yes(method.getName() + " stands in README.md", readme.contains("`" + method.getName() + "`"));
            }
        }
    }

    private static void tests(String readme) throws IOException {
        try (DirectoryStream<Path> files = Files.newDirectoryStream(Path.of("src/test/java"), "*Test.java")) {
            for (Path file : files) {
                String name = file.getFileName().toString().replace(".java", "");
                DUE.yes(name + " stands in README.md", readme.contains("`" + name + "`"));
            }
        }
    }
}
