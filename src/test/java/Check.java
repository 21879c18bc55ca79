import java.util.NoSuchElementException;

/** Runs tests by name and says of each whether it passed. */
final class Check {
    interface Body {
        void run();
    }

    private static int failed = 0;
    private static int wrong = 0;

    private Check() {
    }

    static void test(String name, Body body) {
        wrong = 0;
        try {
            body.run();
        } catch (RuntimeException | Error e) {
            wrong++;
            e.printStackTrace(System.out);
        }
        System.out.println((wrong == 0 ? "passed: " : "failed: ") + name);
        failed += wrong == 0 ? 0 : 1;
    }

    static void wrong(String what) {
        wrong++;
        System.out.println("  " + what);
    }

    static void due(String call, long got, long want) {
        if (got != want) {
            wrong(call + " answered " + got + ", due is " + want);
        }
    }

    static void due(String call, boolean got, boolean want) {
        due(call, got ? 1 : 0, want ? 1 : 0);
    }

    static void noSuch(String call, Body body) {
        try {
            body.run();
        } catch (NoSuchElementException e) {
            return;
        }
        wrong(call + " threw nothing, due is NoSuchElementException");
    }

    static void end() {
        System.exit(failed == 0 ? 0 : 1);
    }

    /** Types a text on the tape, twenty bytes a call; answers what the last call did. */
    static int type(MuleSeasons x, String text) {
        int got = x.feed(0, 0, 0, 0, 0);
        for (int from = 0; from < text.length(); from += 20) {
            int[] numbers = new int[5];
            for (int i = from; i < Math.min(text.length(), from + 20); i++) {
                int k = i - from;
                numbers[k / 4] |= (text.charAt(i) & 255) << (24 - 8 * (k % 4));
            }
            got = x.feed(numbers[0], numbers[1], numbers[2], numbers[3], numbers[4]);
        }
        return got;
    }

    static MuleSeasons plain(String text) {
        MuleSeasons x = new MuleSeasons();
        type(x, text);
        if (x.text(0) < 0) {
            throw new IllegalStateException("no plain: " + text);
        }
        return x;
    }

    static MuleSeasons plainWithLaw(String text, String law) {
        MuleSeasons x = plain(text);
        addLaw(x, law);
        return x;
    }

    static void addLaw(MuleSeasons x, String law) {
        type(x, law);
        int number = x.text(1);
        if (number < 0 || !x.law(number)) {
            throw new IllegalStateException("no law: " + law);
        }
    }

    static int faultOf(int sort, String text) {
        MuleSeasons x = new MuleSeasons();
        type(x, text);
        return x.fault(sort);
    }
}
