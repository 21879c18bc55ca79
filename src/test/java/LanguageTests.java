import java.io.IOException;
import java.lang.reflect.Field;
import java.lang.reflect.Method;
import java.lang.reflect.Modifier;
import java.nio.file.Files;
import java.nio.file.Path;
import java.util.ArrayList;
import java.util.List;
import java.util.regex.Matcher;
import java.util.regex.Pattern;

/** What of LANGUAGE.md can be seen in the source and in the compiled class. */
public final class LanguageTests {
    private static final String SOURCE = read();

    public static void main(String[] args) {
        Check.test("language: words that are not used", LanguageTests::words);
        Check.test("language: what is thrown", LanguageTests::thrown);
        Check.test("language: signs", LanguageTests::signs);
        Check.test("language: sizes", LanguageTests::sizes);
        Check.test("language: static fields and parameters", LanguageTests::members);
        Check.end();
    }

    private static String read() {
        try {
            return Files.readString(Path.of("src/main/java/MuleSeasons.java"));
        } catch (IOException e) {
            throw new IllegalStateException(e);
        }
    }

    private static String withoutComments() {
        return SOURCE.replaceAll("(?s)/\\*.*?\\*/", "").replaceAll("//[^\n]*", "");
    }

    private static void words() {
        String code = withoutComments();
        String[] never = {"->", "::", "\\bcatch\\b", "\\btry\\b", "\\bfinally\\b", "\\bsynchronized\\b", "\\bassert\\b",
            "\\bpackage\\b", "\\bMath\\.\\w+Exact\\b", "\\bSystem\\.(?!arraycopy)", "\\bwhile \\(true\\)",
            "\\bfor \\(;;\\)", "\\bRandom\\b", "\\bThread\\b", "\"\\s*\\+", "\\+\\s*\"", "\\btoString\\b", "\\bhashCode\\b",
            "\\bstatic \\{", "\\bprotected\\b", "\\babstract\\b", "\\bvar\\b"};
        for (String word : never) {
            Check.due(word, Pattern.compile(word).matcher(code).find(), false);
        }
        Matcher imports = Pattern.compile("import ([^;]+);").matcher(code);
        while (imports.find()) {
            Check.due(imports.group(), imports.group(1).equals("java.util.NoSuchElementException"), true);
        }
    }

    private static void thrown() {
        Matcher m = Pattern.compile("\\bthrow\\b[^;]*;").matcher(withoutComments());
        int found = 0;
        while (m.find()) {
            found++;
            Check.due(m.group(), m.group().startsWith("throw new NoSuchElementException(\""), true);
        }
        Check.due("throw", found, 1);
    }

    private static void signs() {
        for (int i = 0; i < SOURCE.length(); i++) {
            if (SOURCE.charAt(i) > 126) {
                Check.due("a sign at " + i, SOURCE.charAt(i), 126);
            }
        }
    }

    private static void sizes() {
        String[] lines = SOURCE.split("\n");
        int began = -1;
        String indent = "";
        for (int i = 0; i < lines.length; i++) {
            boolean head = lines[i].matches("( {4}| {8})(public|private)[^=;]*\\)[^;]*\\{");
            if (head) {
                began = i;
                indent = lines[i].replaceAll("\\S.*", "");
            } else if (began >= 0 && lines[i].equals(indent + "}")) {
                Check.due("lines of " + lines[began].trim(), i - began < 60, true);
                began = -1;
            }
        }
        Check.due("classes", MuleSeasons.class.getDeclaredClasses().length < 12, true);
    }

    private static List<Class<?>> classes() {
        List<Class<?>> all = new ArrayList<>(List.of(MuleSeasons.class.getDeclaredClasses()));
        all.add(MuleSeasons.class);
        return all;
    }

    private static void members() {
        for (Class<?> c : classes()) {
            int own = 0;
            for (Field f : c.getDeclaredFields()) {
                if (Modifier.isStatic(f.getModifiers())) {
                    Check.due("static " + f.getName(), Modifier.isFinal(f.getModifiers()), true);
                } else {
                    own++;
                }
            }
            Check.due("fields of " + c.getName(), own <= 20, true);
            for (Method m : c.getDeclaredMethods()) {
                Check.due("parameters of " + m.getName(), m.getParameterCount() <= 7, true);
            }
        }
    }
}
