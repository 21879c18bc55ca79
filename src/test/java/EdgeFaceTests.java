import java.lang.reflect.InvocationTargetException;
import java.lang.reflect.Method;
import java.lang.reflect.Modifier;
import java.util.ArrayList;
import java.util.List;
import java.util.NoSuchElementException;
import java.util.Random;

/** The edges of the whole face: a new object, its 512 calls, COUNT, and arguments of all kinds in all states. */
public final class EdgeFaceTests {
    private static final int[] NUMBERS = {Integer.MIN_VALUE, Integer.MIN_VALUE + 1, -1000001, -1000, -100, -3, -2, -1, 0, 1, 2,
        3, 4, 5, 6, 7, 8, 9, 10, 11, 15, 16, 20, 30, 31, 39, 40, 41, 59, 60, 61, 99, 100, 101, 200, 201, 239, 240, 241, 255,
        999, 1000, 9999, 10000, Integer.MAX_VALUE - 1, Integer.MAX_VALUE};
    private static final long[] SEEDS = {Long.MIN_VALUE, -1L, 0L, 1L, Long.MAX_VALUE};

    public static void main(String[] args) {
        Check.test("1 a new object: no PLAIN", EdgeFaceTests::noPlain);
        Check.test("1 a new object: what stands without a PLAIN", EdgeFaceTests::withoutPlain);
        Check.test("1 a new object: none of another one", EdgeFaceTests::twoObjects);
        Check.test("an object is used for 512 calls", EdgeFaceTests::allCalls);
        Check.test("what is refused changes nothing but STATUS", EdgeFaceTests::refusedRow);
        Check.test("45 count: HIDDEN for others", EdgeFaceTests::countOthers);
        Check.test("45 count: an empty object", EdgeFaceTests::countEmpty);
        Check.test("45 count: the most of all", EdgeFaceTests::countMost);
        Check.test("no call throws by itself: a new object", () -> anyArguments(0));
        Check.test("no call throws by itself: a small PLAIN", () -> anyArguments(1));
        Check.test("no call throws by itself: a full PLAIN, four LAWS", () -> anyArguments(2));
        Check.test("no call throws by itself: at 9,999", () -> anyArguments(3));
        Check.test("no call throws by itself: a TAPE of any bytes", EdgeFaceTests::anyBytes);
        Check.end();
    }

    private static void noPlain() {
        Twin.Call[] none = {x -> x.text(0), x -> x.text(1), x -> x.rule(0), x -> x.month(0, 0), x -> x.pull(),
            x -> x.decades(1, 1L), x -> x.undo(), x -> x.log(0, 0), x -> x.ahead(0, false, 0), x -> x.soonest(0),
            x -> x.least(1), x -> x.ripens(0), x -> x.oil(1, 1, 0), x -> x.rests(0, 1, 1, -1), x -> x.shares(0, 1, 1),
            x -> x.ride(0, 1), x -> x.level(0, 0), x -> x.year(), x -> x.never(1), x -> x.seen(1, 0, true),
            x -> x.who(1, -1), x -> x.best(1), x -> x.odds(0, 0), x -> x.price(0, 0, 1), x -> x.most(0), x -> x.most(2),
            x -> x.worths(), x -> x.lasts(), x -> x.image(), x -> x.back()};
        for (int i = 0; i < none.length; i++) {
            Twin.unchanged("call " + i, MuleSeasons::new, none[i], -1);
        }
        Twin.Call[] acts = {x -> x.turn(1), x -> x.hay(1), x -> x.grease(0), x -> x.chip(0), x -> x.reverse(),
            x -> x.buy(), x -> x.sow(0)};
        for (int i = 0; i < acts.length; i++) {
            Twin.refused("act " + i, MuleSeasons::new, acts[i], -1, 0);
        }
        Twin.unchanged("game", MuleSeasons::new, x -> x.game(0, 1, 1, 0, 0, 0), -1000000);
        Check.noSuch("crop", () -> new MuleSeasons().crop(0, 0));
    }

    private static void withoutPlain() {
        MuleSeasons x = new MuleSeasons();
        Check.due("the TAPE", x.feed('y' << 8 | ':', '1', 0, 0, 0), 3);
        Check.due("a LAW", x.text(1), 0);
        Check.due("it holds", x.law(0), true);
        Check.due("HAIL", x.set(0, 1), true);
        Check.due("STATUS", x.status(0), 0);
        Check.due("end(0)", x.end(0), true);
        Check.due("fault", x.fault(1), 0);
        Check.due("still no PLAIN", x.pull(), -1);
    }

    private static void twoObjects() {
        List<String> ahead = Twin.all(new MuleSeasons());
        MuleSeasons y = new MuleSeasons();
        MuleSeasons x = Check.plainWithLaw("sm9;m;m;m;c", "y:3");
        x.turn(3);
        x.set(0, 4);
        x.hay(0);
        Check.due("one made ahead", Twin.all(y).equals(ahead), true);
        MuleSeasons z = new MuleSeasons();
        Check.due("no STATUS", z.status(1), 0);
        Check.due("one made behind", Twin.all(z).equals(ahead), true);
    }

    private static void allCalls() {
        // Three feeds and a text, two feeds, a text and a law: eight calls.
        MuleSeasons x = Check.plainWithLaw("sh0;ml2;ml1;ml3;m;c;c", "y:1");
        for (int i = 9; i <= 510; i++) {
            Check.due("MONTH at call " + i, x.turn(1) >= 0, true);
        }
        Check.due("TURN at call 511", x.count(5), 502);
        Check.due("undo() at call 512", x.undo(), 39);
    }

    private static MuleSeasons busy() {
        MuleSeasons x = Check.plainWithLaw("sf95h2p7;ml2g9s0r9;ml2;ml9;cs1r1v0;cs99r99", "y:2");
        x.turn(1);
        x.reverse();
        x.image();
        x.turn(1);
        x.seen(3, 1, false);
        x.set(0, 3);
        x.hay(8);
        x.grease(0);
        x.chip(0);
        x.sow(1);
        Check.type(x, "m;m;");
        return x;
    }

    private static void refusedRow() {
        Twin.refused("turn(0)", EdgeFaceTests::busy, x -> x.turn(0), -1, 1);
        Twin.refused("turn(61)", EdgeFaceTests::busy, x -> x.turn(61), -1, 1);
        Twin.refused("hay(0)", EdgeFaceTests::busy, x -> x.hay(0), -1, 1);
        Twin.refused("hay(9)", EdgeFaceTests::busy, x -> x.hay(9), -1, 1);
        Twin.refused("hay(8)", EdgeFaceTests::busy, x -> x.hay(8), -1, 2);
        Twin.refused("grease(3)", EdgeFaceTests::busy, x -> x.grease(3), -1, 0);
        Twin.refused("grease(0)", EdgeFaceTests::busy, x -> x.grease(0), -1, 1);
        Twin.refused("chip(3)", EdgeFaceTests::busy, x -> x.chip(3), -1, 0);
        Twin.refused("chip(0)", EdgeFaceTests::busy, x -> x.chip(0), -1, 3);
        Twin.refused("buy()", EdgeFaceTests::busy, x -> x.buy(), -1, 2);
        Twin.refused("sow(2)", EdgeFaceTests::busy, x -> x.sow(2), -1, 0);
        Twin.refused("sow(1)", EdgeFaceTests::busy, x -> x.sow(1), -1, 3);
        Twin.unchanged("set(0, 3)", EdgeFaceTests::busy, x -> x.set(0, 3) ? 1 : 0, 0);
        Twin.unchanged("decades(0, 1)", EdgeFaceTests::busy, x -> x.decades(0, 1L), -1);
        Twin.unchanged("text(0)", EdgeFaceTests::busy, x -> x.text(0), -1);
        Twin.unchanged("text(1)", EdgeFaceTests::busy, x -> x.text(1), -1);
        Twin.unchanged("law(1)", EdgeFaceTests::busy, x -> x.law(1) ? 1 : 0, 0);
        Twin.unchanged("end(5)", EdgeFaceTests::busy, x -> x.end(5) ? 1 : 0, 0);
        Twin.unchanged("seen(41, 0, true)", EdgeFaceTests::busy, x -> x.seen(41, 0, true), -1);
    }

    private static void countOthers() {
        int[] none = {-1, 16, 17, 99, Integer.MIN_VALUE, Integer.MAX_VALUE};
        for (int what : none) {
            Twin.unchanged("count(" + what + ")", EdgeFaceTests::busy, x -> x.count(what), -1000000);
            Check.due("a new object", new MuleSeasons().count(what), -1000000);
        }
        Twin.unchanged("count(0)", EdgeFaceTests::busy, x -> x.count(0), 3);
        Twin.unchanged("count(15)", EdgeFaceTests::busy, x -> x.count(15), 3);
    }

    private static void countEmpty() {
        for (int what = 0; what < 16; what++) {
            Check.due("a new object, " + what, new MuleSeasons().count(what), what == 4 ? -1 : 0);
            int due = what == 0 ? 2 : what == 1 ? 1 : what == 4 ? -1 : 0;
            Check.due("a new PLAIN, " + what, Check.plain("m;m;c").count(what), due);
        }
    }

    private static void countMost() {
        MuleSeasons x = full();
        x.turn(60);
        x.turn(60);
        for (int i = 0; i < 11; i++) {
            x.seen(1, 0, false);
        }
        x.reverse();
        x.set(0, 9);
        x.set(1, 9);
        Check.type(x, " ".repeat(240));
        int[] due = {8, 5, 4, 240, 3, 120, 0, 0, 1, 31, 1080, 9, 9, 10, 60, 40};
        for (int what = 0; what < 16; what++) {
            Check.due("count(" + what + ")", x.count(what), due[what]);
        }
    }

    private static MuleSeasons full() {
        MuleSeasons x = Check.plain("sm30f99h0p99;ml9;ml9;ml9;ml9;ml9;ml9;ml9;ml9;cs1r1;cs1r1;cs1r1;cs1r1;cs1r1");
        for (int i = 0; i < 3; i++) {
            Check.addLaw(x, "y:[m-f]/[d-d]+g*k;y:" + i);
        }
        Check.addLaw(x, "y:99");
        return x;
    }

    private static MuleSeasons madeFor(int state) {
        switch (state) {
            case 0:
                return new MuleSeasons();
            case 1:
                return Check.plain("ml1;ml1;c");
            case 2:
                return full();
            default:
                return EdgeTurnTests.atTurn("sh0;m;m;c", "y:m*f/l", 9999);
        }
    }

    private static Object argument(Class<?> type, Random random) {
        if (type == boolean.class) {
            return random.nextBoolean();
        }
        if (type == long.class) {
            return random.nextBoolean() ? SEEDS[random.nextInt(SEEDS.length)] : random.nextLong();
        }
        return random.nextInt(12) == 0 ? random.nextInt() : NUMBERS[random.nextInt(NUMBERS.length)];
    }

    private static void callAny(MuleSeasons x, Method m, Random random) {
        Class<?>[] types = m.getParameterTypes();
        Object[] given = new Object[types.length];
        for (int i = 0; i < types.length; i++) {
            given[i] = argument(types[i], random);
        }
        try {
            m.invoke(x, given);
        } catch (InvocationTargetException e) {
            boolean due = m.getName().equals("crop") && e.getCause().getClass() == NoSuchElementException.class;
            if (!due) {
                Check.wrong(m.getName() + " of " + java.util.Arrays.toString(given) + " threw " + e.getCause());
            }
        } catch (IllegalAccessException e) {
            throw new IllegalStateException(e);
        }
    }

    private static List<Method> face() {
        List<Method> all = new ArrayList<>();
        for (Method m : MuleSeasons.class.getDeclaredMethods()) {
            if (Modifier.isPublic(m.getModifiers())) {
                all.add(m);
            }
        }
        all.sort((a, b) -> a.getName().compareTo(b.getName()));
        return all;
    }

    private static void anyArguments(int state) {
        List<Method> face = face();
        Check.due("methods", face.size(), 44);
        Random random = new Random(state);
        for (int run = 0; run < 40; run++) {
            MuleSeasons x = madeFor(state);
            for (int i = 0; i < 300; i++) {
                callAny(x, face.get(random.nextInt(face.size())), random);
            }
        }
        for (Method m : face) {
            MuleSeasons x = madeFor(state);
            for (int i = 0; i < 100; i++) {
                callAny(x, m, random);
            }
        }
    }

    private static void anyBytes() {
        Random random = new Random(7);
        String likely = "smclgrpvfhdky:;?!()[]=<>+-*/&|0123456789 ";
        for (int run = 0; run < 3000; run++) {
            MuleSeasons x = new MuleSeasons();
            int length = random.nextInt(241);
            StringBuilder text = new StringBuilder(run % 3 == 0 ? "y:" : "");
            while (text.length() < length) {
                boolean any = random.nextInt(40) == 0;
                text.append(any ? (char) (1 + random.nextInt(255)) : likely.charAt(random.nextInt(likely.length())));
            }
            Check.type(x, text.length() > 240 ? text.substring(0, 240) : text.toString());
            int size = x.count(3);
            for (int sort = 0; sort < 2; sort++) {
                int at = x.fault(sort);
                Check.due("a fault within " + text, at >= -1 && at <= size, true);
                Check.due("the same again", x.fault(sort), at);
            }
        }
    }
}
