import java.lang.reflect.Constructor;
import java.lang.reflect.Field;
import java.lang.reflect.Member;
import java.lang.reflect.Method;
import java.lang.reflect.Modifier;
import java.util.Arrays;
import java.util.Set;
import java.util.TreeSet;

/** The public face is the document's, and nothing else can be seen of the class. */
public final class FaceTests {
    private static final String[] DUE = {
        "int feed(int,int,int,int,int)", "boolean end(int)", "int fault(int)", "int text(int)", "int rule(int)",
        "int month(int,int)", "int crop(int,int) throws NoSuchElementException", "boolean law(int)", "int pull()",
        "int turn(int)", "int hay(int)", "int grease(int)", "int chip(int)", "int reverse()", "int buy()",
        "int sow(int)", "boolean set(int,int)", "int decades(int,long)", "int status(int)", "int undo()",
        "int log(int,int)", "int ahead(int,boolean,int)", "int soonest(int)", "int least(int)", "int ripens(int)",
        "int oil(int,int,int)", "int game(int,int,int,int,int,int)", "int rests(int,int,int,int)",
        "int shares(int,int,int)", "int ride(int,int)", "int level(int,int)", "int year()", "int never(int)",
        "int seen(int,int,boolean)", "int who(int,int)", "int best(int)", "int odds(int,int)",
        "int price(int,int,int)", "int most(int)", "int worths()", "int lasts()", "int image()", "int back()",
        "int count(int)"
    };

    public static void main(String[] args) {
        Check.test("face: methods", FaceTests::methods);
        Check.test("face: constants and constructor", FaceTests::constants);
        Check.test("face: private names", FaceTests::privateNames);
        Check.end();
    }

    private static void methods() {
        Set<String> got = new TreeSet<>();
        for (Method m : MuleSeasons.class.getDeclaredMethods()) {
            if (!Modifier.isPrivate(m.getModifiers())) {
                got.add(told(m));
            }
        }
        Set<String> want = new TreeSet<>(Arrays.asList(DUE));
        Check.due("methods " + got, got.equals(want), true);
    }

    private static String told(Method m) {
        StringBuilder text = new StringBuilder(m.getReturnType().getName()).append(' ').append(m.getName()).append('(');
        for (Class<?> type : m.getParameterTypes()) {
            text.append(text.charAt(text.length() - 1) == '(' ? "" : ",").append(type.getName());
        }
        text.append(')');
        for (Class<?> type : m.getExceptionTypes()) {
            text.append(" throws ").append(type.getSimpleName());
        }
        return text.toString();
    }

    private static void constants() {
        Check.due("NONE", MuleSeasons.NONE, -1);
        Check.due("HIDDEN", MuleSeasons.HIDDEN, -1000000);
        Check.due("final", Modifier.isFinal(MuleSeasons.class.getModifiers()), true);
        Check.due("constructors", MuleSeasons.class.getConstructors().length, 1);
        int fields = 0;
        for (Field f : MuleSeasons.class.getDeclaredFields()) {
            fields += Modifier.isPrivate(f.getModifiers()) ? 0 : 1;
        }
        Check.due("fields that can be seen", fields, 2);
        for (Constructor<?> c : MuleSeasons.class.getDeclaredConstructors()) {
            Check.due("constructor", Modifier.isPublic(c.getModifiers()), true);
        }
    }

    private static void privateNames() {
        Set<String> face = new TreeSet<>();
        for (Method m : MuleSeasons.class.getMethods()) {
            face.add(m.getName());
        }
        for (Method m : MuleSeasons.class.getDeclaredMethods()) {
            notOfFace(face, m);
        }
        for (Class<?> c : MuleSeasons.class.getDeclaredClasses()) {
            Check.due(c.getName() + " static", Modifier.isStatic(c.getModifiers()), true);
            for (Method m : c.getDeclaredMethods()) {
                notOfFace(face, m);
            }
        }
    }

    private static void notOfFace(Set<String> face, Member m) {
        if (Modifier.isPrivate(m.getModifiers()) && face.contains(m.getName())) {
            Check.due("private " + m.getName(), 1, 0);
        }
    }
}
