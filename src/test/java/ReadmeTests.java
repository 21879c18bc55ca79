import java.io.IOException;
import java.lang.reflect.Method;
import java.lang.reflect.Modifier;
import java.nio.file.DirectoryStream;
import java.nio.file.Files;
import java.nio.file.Path;
import java.util.ArrayList;
import java.util.List;
import java.util.regex.Matcher;
import java.util.regex.Pattern;

/** README.md names all there is, and what its tables say is so; .ci/run runs the program in it. */
public final class ReadmeTests {
    private static final String PAGE = read(Path.of("README.md"));
    // All is ripe by the first day, so that no call finds nothing by itself.
    private static final String PLAIN = "sf90p99;m;m;cs0r0v0";
    private static final String NUMBER = "(-?[0-9]+)";

    public static void main(String[] args) {
        Check.test("readme: names every call", ReadmeTests::calls);
        Check.test("readme: names every class of tests", ReadmeTests::tests);
        Check.test("readme: term PLAIN, the items", ReadmeTests::items);
        Check.test("readme: what is done by hand", ReadmeTests::prices);
        Check.test("readme: bounds of what is asked", ReadmeTests::bounds);
        Check.test("readme: term LAW, the examples", ReadmeTests::laws);
        Check.end();
    }

    private static String read(Path path) {
        try {
            return Files.readString(path);
        } catch (IOException e) {
            throw new IllegalStateException(e);
        }
    }

    private static void calls() {
        for (Method m : MuleSeasons.class.getDeclaredMethods()) {
            if (Modifier.isPublic(m.getModifiers())) {
                String told = toldCall(m.getName());
                int many = told.isEmpty() ? 0 : told.split(",").length;
                Check.due("numbers of " + m.getName() + " in README.md", many, m.getParameterCount());
            }
        }
    }

    /** What stands between the brackets of the call where the page names it first as code. */
    private static String toldCall(String name) {
        Matcher m = Pattern.compile("`" + name + "\\(([^)]*)\\)`").matcher(PAGE);
        if (!m.find()) {
            Check.wrong("README.md does not name " + name);
            return "";
        }
        return m.group(1);
    }

    private static void tests() {
        try (DirectoryStream<Path> files = Files.newDirectoryStream(Path.of("src/test/java"), "*Tests.java")) {
            for (Path file : files) {
                String name = file.getFileName().toString().replace(".java", "");
                Check.due("README.md names " + name, PAGE.contains("`" + name + "`"), true);
            }
        } catch (IOException e) {
            throw new IllegalStateException(e);
        }
    }

    private static void items() {
        Matcher m = Pattern.compile("\\| `([smc])` \\| `([a-z])` \\|[^|]*\\| " + NUMBER + " \\.\\. " + NUMBER + " \\| "
            + NUMBER + " \\|").matcher(PAGE);
        int found = 0;
        while (m.find()) {
            found++;
            item(m.group(1).charAt(0), m.group(2), Integer.parseInt(m.group(3)), Integer.parseInt(m.group(4)),
                Integer.parseInt(m.group(5)));
        }
        Check.due("items in README.md", found, 12);
    }

    private static void item(char clause, String letter, int low, int high, int without) {
        String rest = clause == 's' ? ";m;m;c" : clause == 'm' ? ";m;c" : ";m;m";
        String begun = clause + letter;
        int size = begun.length();
        Check.due(begun + low, Check.faultOf(0, begun + low + rest), MuleSeasons.NONE);
        Check.due(begun + high, Check.faultOf(0, begun + high + rest), MuleSeasons.NONE);
        String more = String.valueOf(high + 1);
        Check.due(begun + more, Check.faultOf(0, begun + more + rest), size + Math.min(2, more.length() - 1));
        if (low > 0) {
            Check.due(begun + (low - 1), Check.faultOf(0, begun + (low - 1) + rest), size);
        }
        Check.due(begun + " without", numberOf(Check.plain(clause + rest), clause, letter), without);
        Check.due(begun + high + " then", numberOf(Check.plain(begun + high + rest), clause, letter), high);
    }

    private static int numberOf(MuleSeasons x, char clause, String letter) {
        return switch (clause) {
            case 's' -> x.rule("mfhp".indexOf(letter));
            case 'm' -> x.month(0, "lgsrp".indexOf(letter));
            default -> x.crop(0, "srv".indexOf(letter));
        };
    }

    private static void prices() {
        Matcher m = Pattern.compile("\\| `([a-z]+)\\(([a-z]*)\\)` \\|[^|]*\\|[^|]*\\| ([0-9]+|n) \\|").matcher(PAGE);
        int found = 0;
        while (m.find()) {
            found++;
            MuleSeasons x = Check.plain(PLAIN);
            x.turn(1);
            int purse = x.rule(3);
            List<String> names = namesIn(m.group(2));
            int price = m.group(3).equals("n") ? usual("n", "int") : Integer.parseInt(m.group(3));
            Check.due(m.group(1) + " is done", on(x, m.group(1), names, "", 0) != MuleSeasons.NONE, true);
            Check.due(m.group(1) + ", PURSE", x.rule(3), purse - price);
        }
        Check.due("calls by hand in README.md", found, 7);
    }

    private static void bounds() {
        Matcher row = Pattern.compile("\\| `([a-z]+)\\(([a-z, ]*)\\)` \\|[^|]*\\|([^|\n]*\\.\\.[^|\n]*)\\|\n").matcher(PAGE);
        int found = 0;
        while (row.find()) {
            Matcher m = Pattern.compile("([a-z]+) " + NUMBER + " \\.\\. " + NUMBER).matcher(row.group(3));
            while (m.find()) {
                found++;
                int low = Integer.parseInt(m.group(2));
                int high = Integer.parseInt(m.group(3));
                bound(row.group(1), namesIn(row.group(2)), m.group(1), new int[] {low - 1, low, high, high + 1});
            }
        }
        Check.due("bounds in README.md", found, 19);
    }

    private static void bound(String call, List<String> names, String name, int[] values) {
        for (int i = 0; i < values.length; i++) {
            MuleSeasons x = Check.plain(PLAIN);
            int got = on(x, call, names, name, values[i]);
            boolean refused = got == MuleSeasons.NONE || got == MuleSeasons.HIDDEN;
            Check.due(call + " is refused with " + name + " " + values[i], refused, i == 0 || i == 3);
        }
    }

    private static List<String> namesIn(String told) {
        return told.isEmpty() ? List.of() : List.of(told.split(", "));
    }

    /** Calls it with what is usual for each name, but with v for the one. */
    private static int on(MuleSeasons x, String call, List<String> names, String name, int v) {
        for (Method m : MuleSeasons.class.getDeclaredMethods()) {
            if (m.getName().equals(call) && Modifier.isPublic(m.getModifiers())) {
                List<Object> given = new ArrayList<>();
                for (int i = 0; i < names.size(); i++) {
                    boolean asked = m.getParameterTypes()[i] == boolean.class;
                    String type = asked ? "boolean" : "int";
                    int number = names.get(i).equals(name) ? v : usual(names.get(i), type);
                    given.add(asked ? (Object) (number == 1) : (Object) number);
                }
                try {
                    return (Integer) m.invoke(x, given.toArray());
                } catch (ReflectiveOperationException e) {
                    throw new IllegalStateException(e);
                }
            }
        }
        throw new IllegalStateException("no call " + call);
    }

    private static int usual(String name, String type) {
        if (type.equals("boolean")) {
            return 1;
        }
        return switch (name) {
            case "n", "k", "g", "c", "other", "to" -> 1;
            case "i" -> MuleSeasons.NONE;
            default -> 0;
        };
    }

    private static void laws() {
        Matcher m = Pattern.compile("(?m)^(y: .*?) {3,}\\S.*$").matcher(PAGE);
        int found = 0;
        while (m.find()) {
            found++;
            Check.due("fault of " + m.group(1), Check.faultOf(1, m.group(1)), MuleSeasons.NONE);
        }
        Check.due("laws in README.md", found, 3);
        MuleSeasons x = Check.plainWithLaw("sm12f5;ml7g3;m;c", "y: g");
        Check.due("y: g", x.pull(), 3);
        Check.addLaw(x, "y: f<4 ? 1; y: 3");
        Check.due("y: f<4 ? 1; y: 3", x.pull(), 3);
        Check.addLaw(x, "y: !(k=0 | d>1) & m>5 ? l");
        Check.due("in month 0", x.pull(), 0);
    }
}
