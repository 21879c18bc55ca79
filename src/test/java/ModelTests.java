import java.util.NoSuchElementException;
import java.util.Random;

/** Runs of calls by chance (always the same ones), each answer compared with the model's. */
public final class ModelTests {
    private final Random random;
    private final MuleSeasons x = new MuleSeasons();
    private final Model m = new Model();
    private final String[] trail = new String[512];
    private int calls = 0;
    private boolean broken = false;

    private ModelTests(long seed) {
        random = new Random(seed);
    }

    public static void main(String[] args) {
        int runs = args.length > 0 ? Integer.parseInt(args[0]) : 400;
        int first = args.length > 1 ? Integer.parseInt(args[1]) : 0;
        Check.test("model: runs of calls", () -> runs(first, runs));
        Check.test("model: texts with faults", () -> texts(first, runs * 200));
        Check.test("model: long runs", () -> longRuns(first, Math.max(4, runs / 40)));
        Check.end();
    }

    private static void runs(int first, int many) {
        for (int seed = first; seed < first + many; seed++) {
            ModelTests t = new ModelTests(seed);
            int turns = 2 + t.random.nextInt(8);
            t.typePlain();
            t.typeLaw();
            while (t.calls < 512 && !t.broken) {
                t.any(turns);
            }
        }
    }

    private static void longRuns(int first, int many) {
        for (int seed = first; seed < first + many; seed++) {
            ModelTests t = new ModelTests(seed);
            t.typePlain();
            t.typeLaw();
            while (t.calls < 512 && !t.broken) {
                int n = t.random.nextInt(6) == 0 ? t.random.nextInt(62) : 60;
                if (t.random.nextInt(20) == 0) {
                    t.any(60);
                } else if (t.random.nextInt(4) == 0) {
                    long s = t.random.nextLong();
                    t.same("decades(" + n + ", " + s + ")", t.x.decades(n, s), t.m.decades(n, s));
                } else {
                    t.same("turn(" + n + ")", t.x.turn(n), t.m.turn(n));
                }
            }
        }
    }

    private static void texts(int first, int many) {
        Random r = new Random(first);
        ModelTests t = new ModelTests(first);
        MuleSeasons x = new MuleSeasons();
        Model m = new Model();
        for (int i = 0; i < many; i++) {
            int sort = r.nextInt(2);
            StringBuilder text = new StringBuilder(sort == 0 ? t.plain() : t.law());
            for (int k = r.nextInt(3); k > 0; k--) {
                spoil(text, r);
            }
            x.end(0);
            m.end(0);
            feedBoth(x, m, text.toString());
            int got = x.fault(sort);
            int want = m.fault(sort);
            if (got != want) {
                Check.due("fault(" + sort + ") of " + text, got, want);
                return;
            }
        }
    }

    private static void spoil(StringBuilder text, Random r) {
        String signs = "smclgrpvfhdky:;?!()[]=<>+-*/&|0123456789 x";
        int at = r.nextInt(text.length() + 1);
        switch (r.nextInt(5)) {
            case 0 -> text.insert(at, signs.charAt(r.nextInt(signs.length())));
            case 1 -> text.setLength(at);
            case 2 -> {
                if (at < text.length()) {
                    text.deleteCharAt(at);
                }
            }
            case 3 -> {
                if (at < text.length()) {
                    text.setCharAt(at, signs.charAt(r.nextInt(signs.length())));
                }
            }
            default -> {
                int to = Math.min(text.length(), at + 1 + r.nextInt(8));
                text.insert(r.nextInt(text.length() + 1), text.substring(at, to));
            }
        }
        if (text.length() > 240) {
            text.setLength(240);
        }
    }

    // ---- texts by chance

    private int n(int bound) {
        return random.nextInt(bound);
    }

    private String blank() {
        return n(12) == 0 ? " " : "";
    }

    private String items(String letters, int[] low, int[] high) {
        StringBuilder text = new StringBuilder();
        int from = n(letters.length());
        for (int i = 0; i < letters.length(); i++) {
            int k = (from + i) % letters.length();
            if (n(3) > 0) {
                text.append(blank()).append(letters.charAt(k)).append(blank());
                text.append(low[k] + n(high[k] - low[k] + 1));
            }
        }
        return text.toString();
    }

    private String plain() {
        StringBuilder text = new StringBuilder();
        int months = 2 + (n(4) == 0 ? n(7) : n(4));
        int crops = 1 + (n(4) == 0 ? n(5) : n(3));
        int rules = n(5) == 0 ? 0 : 1;
        while (months + crops + rules > 0) {
            int k = n(months + crops + rules);
            text.append(text.length() == 0 ? "" : ";").append(blank());
            if (k < months) {
                months--;
                text.append('m').append(items("lgsrp", new int[] {1, 0, 0, 0, 1}, new int[] {9, 9, 9, 9, 9}));
            } else if (k < months + crops) {
                crops--;
                int need = n(2) == 0 ? 99 : 30;
                text.append('c').append(items("srv", new int[3], new int[] {need, need, 99}));
            } else {
                rules--;
                text.append('s').append(items("mfhp", new int[] {1, 0, 0, 0}, new int[] {30, 99, n(2) == 0 ? 9 : 2, 99}));
            }
        }
        return text.length() > 240 ? "m;m;c" : text.append(blank()).toString();
    }

    private String law() {
        StringBuilder text = new StringBuilder();
        int clauses = 1 + n(4);
        for (int i = 0; i < clauses; i++) {
            text.append(i == 0 ? "" : ";").append(blank()).append("y").append(blank()).append(':');
            if (n(3) > 0) {
                text.append(condition(n(4) == 0 ? 6 : 2)).append(blank()).append('?');
            }
            text.append(blank()).append(sum(n(3)));
        }
        return text.length() > 240 ? "y:m/6+g" : text.toString();
    }

    private String condition(int depth) {
        StringBuilder text = new StringBuilder(unit(depth));
        for (int i = n(3); i > 0; i--) {
            text.append(blank()).append(n(2) == 0 ? '&' : '|').append(unit(depth));
        }
        return text.toString();
    }

    private String unit(int depth) {
        int k = depth > 0 ? n(4) : 3;
        if (k == 0) {
            return "!" + blank() + unit(depth - 1);
        }
        if (k == 1) {
            return "(" + condition(depth - 1) + ")";
        }
        return sum(Math.min(depth, 1)) + blank() + "=<>".charAt(n(3)) + blank() + sum(0);
    }

    private String sum(int depth) {
        StringBuilder text = new StringBuilder(atom(depth));
        for (int i = n(3); i > 0; i--) {
            text.append(blank()).append("+-*/".charAt(n(4))).append(blank()).append(atom(depth));
        }
        return text.toString();
    }

    private String atom(int depth) {
        if (depth > 0 && n(3) == 0) {
            return "[" + sum(depth - 1) + "]";
        }
        if (n(2) == 0) {
            return String.valueOf("mfgldk".charAt(n(6)));
        }
        return String.valueOf(n(12) == 0 ? n(10000) : n(12));
    }

    private static void feedBoth(MuleSeasons x, Model m, String text) {
        for (int from = 0; from < text.length(); from += 20) {
            int[] k = new int[5];
            for (int i = from; i < Math.min(text.length(), from + 20); i++) {
                k[(i - from) / 4] |= (text.charAt(i) & 255) << (24 - 8 * ((i - from) % 4));
            }
            x.feed(k[0], k[1], k[2], k[3], k[4]);
            m.feed(k);
        }
    }

    private void type(String text) {
        same("end(0)", x.end(0) ? 1 : 0, m.end(0));
        for (int from = 0; from < text.length(); from += 20) {
            int[] k = new int[5];
            for (int i = from; i < Math.min(text.length(), from + 20); i++) {
                k[(i - from) / 4] |= (text.charAt(i) & 255) << (24 - 8 * ((i - from) % 4));
            }
            same("feed of " + text, x.feed(k[0], k[1], k[2], k[3], k[4]), m.feed(k));
        }
    }

    private void typePlain() {
        type(plain());
        same("text(0)", x.text(0), m.text(0));
    }

    private void typeLaw() {
        type(law());
        same("text(1)", x.text(1), m.text(1));
        int k = n(5) - 1;
        same("law(" + k + ")", x.law(k) ? 1 : 0, m.law(k));
    }

    // ---- calls by chance

    private void same(String call, long got, long want) {
        if (calls < 512) {
            trail[calls] = call + " -> " + got;
        }
        calls++;
        if (got != want && !broken) {
            broken = true;
            for (int i = 0; i < Math.min(calls, 512); i++) {
                System.out.println("    " + trail[i]);
            }
            Check.due(call, got, want);
        }
    }

    /** Mostly within the bounds, now and then one beside them. */
    private int some(int low, int high) {
        int k = n(30);
        if (k == 0) {
            return low - 1;
        }
        if (k == 1) {
            return high + 1;
        }
        if (k == 2) {
            return n(2) == 0 ? low : high;
        }
        if (k == 3 && n(5) == 0) {
            return random.nextInt();
        }
        return low + n(high - low + 1);
    }

    private int someMonth() {
        int months = Math.max(1, x.count(0));
        return some(0, months - 1);
    }

    private int someCrop() {
        return some(0, Math.max(1, x.count(1)) - 1);
    }

    private void any(int turns) {
        if (n(90) == 0) {
            typePlain();
        } else if (n(60) == 0) {
            typeLaw();
        } else if (n(3) > 0) {
            act(n(12), turns);
        } else if (n(2) == 0) {
            look(n(14));
        } else {
            ask(n(19));
        }
    }

    private void act(int k, int turns) {
        int a = someMonth();
        int b = someCrop();
        switch (k) {
            case 0, 1 -> {
                int n = some(1, turns);
                same("turn(" + n + ")", x.turn(n), m.turn(n));
            }
            case 2 -> {
                int n = some(1, n(3) == 0 ? 99 : 9);
                same("hay(" + n + ")", x.hay(n), m.hay(n));
            }
            case 3 -> same("grease(" + a + ")", x.grease(a), m.grease(a));
            case 4 -> same("chip(" + a + ")", x.chip(a), m.chip(a));
            case 5 -> same("reverse()", x.reverse(), m.reverse());
            case 6 -> same("buy()", x.buy(), m.buy());
            case 7 -> same("sow(" + b + ")", x.sow(b), m.sow(b));
            case 8 -> {
                int what = some(0, 1);
                int v = some(0, 9);
                same("set(" + what + ", " + v + ")", x.set(what, v) ? 1 : 0, m.set(what, v));
            }
            case 9 -> {
                int n = some(1, turns);
                long seed = random.nextLong();
                same("decades(" + n + ", " + seed + ")", x.decades(n, seed), m.decades(n, seed));
            }
            case 10 -> {
                for (int i = n(4); i >= 0; i--) {
                    same("undo()", x.undo(), m.undo());
                }
            }
            default -> {
                if (n(3) == 0) {
                    same("image()", x.image(), m.image());
                } else if (n(3) == 0) {
                    same("back()", x.back(), m.back());
                } else {
                    int law = some(-1, 3);
                    same("law(" + law + ")", x.law(law) ? 1 : 0, m.law(law));
                }
            }
        }
    }

    private void look(int k) {
        int what = some(0, 5);
        int a = someMonth();
        int b = someMonth();
        switch (k) {
            case 0 -> same("rule(" + what + ")", x.rule(what), m.rule(what));
            case 1 -> same("month(" + a + ", " + what + ")", x.month(a, what), m.month(a, what));
            case 2 -> {
                int c = someCrop();
                same("crop(" + c + ", " + what + ")", cropOf(c, what), cropOfModel(c, what));
            }
            case 3 -> same("pull()", x.pull(), m.pull());
            case 4 -> same("status(" + what + ")", x.status(what), m.status(what));
            case 5 -> {
                int i = some(0, n(3) == 0 ? 60 : 4);
                int w = some(0, 3);
                same("log(" + i + ", " + w + ")", x.log(i, w), m.log(i, w));
            }
            case 6 -> same("level(" + a + ", " + b + ")", x.level(a, b), m.level(a, b));
            case 7 -> same("year()", x.year(), m.year());
            case 8 -> {
                int w = some(0, 2);
                same("most(" + w + ")", x.most(w), m.most(w));
            }
            case 9 -> same("worths()", x.worths(), m.worths());
            case 10 -> {
                int sort = some(0, 1);
                same("fault(" + sort + ")", x.fault(sort), m.fault(sort));
            }
            case 11 -> {
                int n = some(0, Math.max(1, x.count(3)));
                same("end(" + n + ")", x.end(n) ? 1 : 0, m.end(n));
            }
            default -> {
                int w = some(0, 15);
                same("count(" + w + ")", x.count(w), m.count(w));
            }
        }
    }

    private long cropOf(int c, int what) {
        try {
            return x.crop(c, what);
        } catch (NoSuchElementException e) {
            return -77;
        }
    }

    private long cropOfModel(int c, int what) {
        try {
            return m.crop(c, what);
        } catch (NoSuchElementException e) {
            return -77;
        }
    }

    private void ask(int k) {
        int a = someMonth();
        int b = someMonth();
        int n60 = some(1, 60);
        int n40 = some(1, 40);
        switch (k) {
            case 0 -> {
                int n = some(0, 60);
                boolean other = n(2) == 0;
                int what = some(0, 1);
                same("ahead(" + n + ", " + other + ", " + what + ")", x.ahead(n, other, what), m.ahead(n, other, what));
            }
            case 1 -> same("soonest(" + a + ")", x.soonest(a), m.soonest(a));
            case 2 -> same("least(" + n60 + ")", x.least(n60), m.least(n60));
            case 3 -> {
                int c = someCrop();
                same("ripens(" + c + ")", x.ripens(c), m.ripens(c));
            }
            case 4 -> {
                int i = some(1, 3);
                int w = some(0, 1);
                int n = n(2) == 0 ? n40 : some(1, 8);
                same("oil(" + i + ", " + n + ", " + w + ")", x.oil(i, n, w), m.oil(i, n, w));
            }
            case 5 -> {
                int p = some(0, 9);
                int q = some(0, 9);
                int w = some(0, 1);
                same("game(" + a + ", " + b + ", " + n40 + ", " + p + ", " + q + ", " + w + ")",
                    x.game(a, b, n40, p, q, w), m.game(a, b, n40, p, q, w));
            }
            case 6 -> {
                int i = some(-1, 3);
                same("rests(" + a + ", " + b + ", " + n40 + ", " + i + ")", x.rests(a, b, n40, i), m.rests(a, b, n40, i));
            }
            case 7 -> {
                int c = some(0, 999);
                same("shares(" + a + ", " + n60 + ", " + c + ")", x.shares(a, n60, c), m.shares(a, n60, c));
            }
            case 8, 9 -> same("ride(" + a + ", " + b + ")", x.ride(a, b), m.ride(a, b));
            case 10 -> {
                int n = n(2) == 0 ? n60 : some(1, 4);
                same("never(" + n + ")", x.never(n), m.never(n));
            }
            case 11 -> {
                boolean is = n(4) == 0;
                same("seen(" + n40 + ", " + a + ", " + is + ")", x.seen(n40, a, is), m.seen(n40, a, is));
            }
            case 12, 13 -> {
                int g = some(1, 5);
                int i = some(-1, 8);
                same("who(" + g + ", " + i + ")", x.who(g, i), m.who(g, i));
            }
            case 14 -> {
                int g = some(1, 5);
                same("best(" + g + ")", x.best(g), m.best(g));
            }
            case 15 -> {
                int n = some(0, 30);
                int c = some(0, 100);
                same("odds(" + n + ", " + c + ")", x.odds(n, c), m.odds(n, c));
            }
            case 16 -> {
                int n = some(0, 30);
                int h = some(0, 100);
                int c = some(1, 999);
                same("price(" + n + ", " + h + ", " + c + ")", x.price(n, h, c), m.price(n, h, c));
            }
            default -> same("lasts()", x.lasts(), m.lasts());
        }
    }
}
