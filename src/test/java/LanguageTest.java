import java.io.IOException;
import java.lang.reflect.Constructor;
import java.lang.reflect.Field;
import java.lang.reflect.Method;
import java.lang.reflect.Modifier;
import java.nio.file.Files;
import java.nio.file.Path;
import java.util.Set;
import java.util.TreeSet;
import java.util.regex.Matcher;
import java.util.regex.Pattern;

/** The rules of LANGUAGE.md that can be seen in the source's text or in the compiled class. */
public final class LanguageTest {
    private static final Due DUE = new Due();
    private static final Set<String> FACE = Set.of("feed", "law", "picture", "fault", "tells", "written", "needs",
        "open", "begin", "set", "answer", "pictureOf", "next", "longest", "say", "judge", "clash", "bridge", "reveal",
        "caseOf", "count");

    public static void main(String[] args) throws IOException {
        face();
        namesInside();
        staticState();
        String source = Files.readString(Path.of("src/main/java/AskedBack.java"));
        words(source);
        methodLengths(source);
        DUE.end();
    }

    private static void face() {
        DUE.yes("the class is public and final",
            Modifier.isPublic(AskedBack.class.getModifiers()) && Modifier.isFinal(AskedBack.class.getModifiers()));
        Set<String> seen = new TreeSet<>();
        for (Method method : AskedBack.class.getDeclaredMethods()) {
            if (!Modifier.isPrivate(method.getModifiers())) {
                seen.add(method.getName());
            }
        }
        DUE.is("methods of the face", seen.toString(), new TreeSet<>(FACE).toString());
        for (Field field : AskedBack.class.getDeclaredFields()) {
            DUE.yes("field " + field.getName() + " is private",
                Modifier.isPrivate(field.getModifiers()) || field.getName().equals("NONE"));
        }
        Constructor<?>[] constructors = AskedBack.class.getDeclaredConstructors();
        DUE.is("constructors", constructors.length, 1);
        DUE.is("arguments of the constructor", constructors[0].getParameterCount(), 0);
    }

    private static void namesInside() {
        for (Method method : AskedBack.class.getDeclaredMethods()) {
            boolean hidden = Modifier.isPrivate(method.getModifiers());
            DUE.no("private " + method.getName() + " bears a public name", hidden && FACE.contains(method.getName()));
        }
        DUE.yes("at most twelve classes", AskedBack.class.getDeclaredClasses().length < 12);
        for (Class<?> inside : AskedBack.class.getDeclaredClasses()) {
            int modifiers = inside.getModifiers();
            DUE.yes(inside.getName() + " is static", Modifier.isStatic(modifiers));
            DUE.no(inside.getName() + " is seen", Modifier.isPublic(modifiers) || Modifier.isProtected(modifiers));
            for (Method method : inside.getDeclaredMethods()) {
                DUE.no(method.getName() + " bears a public name", FACE.contains(method.getName()));
                DUE.yes(method.getName() + " takes at most seven", method.getParameterCount() <= 7);
            }
        }
    }

    private static void staticState() {
        fieldsOf(AskedBack.class);
        for (Class<?> inside : AskedBack.class.getDeclaredClasses()) {
            fieldsOf(inside);
        }
    }

    private static void fieldsOf(Class<?> owner) {
        int own = 0;
        for (Field field : owner.getDeclaredFields()) {
            finalIfStatic(field);
            own += Modifier.isStatic(field.getModifiers()) ? 0 : 1;
        }
        DUE.yes(owner.getName() + " has at most twenty fields", own <= 20);
    }

    private static void finalIfStatic(Field field) {
        int modifiers = field.getModifiers();
        DUE.yes(field.getName() + " is final", !Modifier.isStatic(modifiers) || Modifier.isFinal(modifiers));
    }

    private static void words(String source) {
        String code = source.replaceAll("(?s)/\\*.*?\\*/", "").replaceAll("//[^\n]*", "");
        Matcher outside = Pattern.compile("\\b(throw|throws|try|catch|finally|synchronized|assert|package|native)\\b"
            + "|->|::|\\bSystem\\.(?!arraycopy)|\\w+Exact\\b").matcher(code);
        while (outside.find()) {
            DUE.is("a word outside the language", outside.group(), "");
        }
        Matcher imports = Pattern.compile("import ([^;]+);").matcher(code);
        while (imports.find()) {
            DUE.yes("import " + imports.group(1),
                Set.of("java.util.Arrays", "java.util.ArrayList", "java.util.List").contains(imports.group(1)));
        }
    }

    /** A method goes from the line that opens it to the closing bracket at the same indent. */
    private static void methodLengths(String source) {
        Matcher method = Pattern.compile("(?m)^( {4}| {8})(?! )(?!.*\\bclass\\b)[^\n=/*]*\\) \\{\n(?s:.*?)^\\1\\}").matcher(source);
        int seen = 0;
        while (method.find()) {
            String whole = method.group();
            seen++;
            DUE.yes(whole.substring(0, whole.indexOf('\n')).trim() + " has at most sixty lines", whole.split("\n").length <= 60);
        }
        DUE.yes("the methods were found", seen > FACE.size());
    }
}
