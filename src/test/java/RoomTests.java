import java.lang.management.ManagementFactory;
import java.lang.reflect.Array;
import java.lang.reflect.Field;
import java.lang.reflect.Modifier;
import java.util.ArrayList;
import java.util.IdentityHashMap;
import java.util.List;
import java.util.Map;

/** What an object holds is made with it; calls make nothing more. */
public final class RoomTests {
    private static final String FULL = "sm30f99h0p99;ml9r0;ml9r0;ml9r0;ml9r0;ml9r0;ml9r0;ml9r0;ml9r0;cr9;cr9;cr9;cr9;cr9";
    private static final String LAW = "y:m>40|!(f<0|[g+l*d-k]/2>1000)&l<0?1;y:[m*f-f*m]+[g+l*d-k]/100+3";

    public static void main(String[] args) {
        Check.test("room: a new object", RoomTests::fresh);
        Check.test("room: calls make nothing", RoomTests::calls);
        Check.end();
    }

    private static void fresh() {
        int[] found = new int[2];
        count(new MuleSeasons(), new IdentityHashMap<>(), found);
        Check.due("objects: " + found[0], found[0] < 60, true);
        Check.due("fields and elements: " + found[1], found[1] < 10000, true);
    }

    private static void count(Object o, Map<Object, Object> met, int[] found) {
        if (o == null || o instanceof String || met.put(o, o) != null) {
            return;
        }
        found[0]++;
        if (o.getClass().isArray()) {
            found[1] += Array.getLength(o);
            return;
        }
        for (Field f : o.getClass().getDeclaredFields()) {
            if (Modifier.isStatic(f.getModifiers())) {
                continue;
            }
            found[1]++;
            f.setAccessible(true);
            if (!f.getType().isPrimitive()) {
                try {
                    count(f.get(o), met, found);
                } catch (IllegalAccessException e) {
                    throw new IllegalStateException(e);
                }
            }
        }
    }

    private interface Call {
        int on(MuleSeasons x);
    }

    private static void calls() {
        List<Call> all = new ArrayList<>();
        all.add(x -> x.oil(3, 5, 0));
        all.add(x -> x.least(5));
        all.add(x -> x.rests(0, 1, 20, 0));
        all.add(x -> x.game(0, 1, 40, 1, 2, 0));
        all.add(x -> x.best(5));
        all.add(x -> x.who(5, 0));
        all.add(x -> x.ride(0, 7));
        all.add(x -> x.ripens(4));
        all.add(x -> x.lasts());
        all.add(x -> x.odds(30, 50));
        all.add(x -> x.price(30, 50, 999));
        all.add(x -> x.turn(1));
        all.add(x -> x.decades(1, 9L));
        all.add(x -> x.undo());
        all.add(x -> x.image());
        all.add(x -> x.back());
        all.add(x -> x.feed(1, 2, 3, 4, 5));
        all.add(x -> x.fault(0));
        all.add(x -> x.fault(1));
        all.add(x -> x.text(0));
        all.add(x -> x.text(1));
        all.add(x -> x.most(2));
        all.add(x -> x.level(0, 1));
        all.add(x -> x.never(60));
        all.add(x -> x.shares(0, 60, 999));
        com.sun.management.ThreadMXBean thread = (com.sun.management.ThreadMXBean) ManagementFactory.getThreadMXBean();
        for (int i = 0; i < all.size(); i++) {
            MuleSeasons x = Check.plainWithLaw(FULL, LAW);
            Check.type(x, LAW);
            Call call = all.get(i);
            call.on(x);
            long ahead = thread.getCurrentThreadAllocatedBytes();
            int sum = 0;
            for (int k = 0; k < 100; k++) {
                sum += call.on(x);
            }
            long made = thread.getCurrentThreadAllocatedBytes() - ahead;
            Check.due("bytes made by call " + i + ": " + made + " (" + sum + ")", made < 1600, true);
        }
    }
}
