import java.util.ArrayList;
import java.util.Arrays;
import java.util.HashMap;
import java.util.List;
import java.util.Map;
import java.util.NoSuchElementException;

/** The document once more, written the long way round, to compare the class with. */
final class Model {
    /** Where a text can't go on. */
    private static final class Fault extends RuntimeException {
        private static final long serialVersionUID = 1L;
        final int at;

        Fault(int at) {
            this.at = at;
        }
    }

    private interface Sum {
        long by(Map<Character, Integer> letters);
    }

    private interface Truth {
        boolean by(Map<Character, Integer> letters);
    }

    private record Clause(Truth truth, Sum sum) {
    }

    private static final class Month {
        int length = 3;
        int grease = 0;
        int sun = 3;
        int rain = 3;
        int pole = 4;
    }

    private static final class Crop {
        int needSun = 10;
        int needRain = 10;
        int value = 10;
        int gotSun = 0;
        int gotRain = 0;
        boolean ripe = false;
    }

    private record Line(int month, int day, int pull, int ripe) {
    }

    private static final class World {
        final List<Month> months = new ArrayList<>();
        final List<Crop> crops = new ArrayList<>();
        List<Line> lines = new ArrayList<>();
        int mule = 12;
        int feed = 30;
        int hay = 2;
        int purse = 10;
        boolean other = false;
        int month = 0;
        int day = 0;
        int came = 0;
        int turn = 0;
        List<Integer> cameMonths = new ArrayList<>();

        World copy() {
            World w = new World();
            for (Month m : months) {
                Month n = new Month();
                n.length = m.length;
                n.grease = m.grease;
                n.sun = m.sun;
                n.rain = m.rain;
                n.pole = m.pole;
                w.months.add(n);
            }
            for (Crop c : crops) {
                Crop d = new Crop();
                d.needSun = c.needSun;
                d.needRain = c.needRain;
                d.value = c.value;
                d.gotSun = c.gotSun;
                d.gotRain = c.gotRain;
                d.ripe = c.ripe;
                w.crops.add(d);
            }
            w.lines = new ArrayList<>(lines);
            w.mule = mule;
            w.feed = feed;
            w.hay = hay;
            w.purse = purse;
            w.other = other;
            w.month = month;
            w.day = day;
            w.came = came;
            w.turn = turn;
            return w;
        }

        void grease(int m, int times) {
            months.get(m).grease = Math.min(9, months.get(m).grease + times);
        }

        void chip(int m) {
            Month it = months.get(m);
            if (it.sun > 0) {
                it.sun--;
                it.rain = Math.min(9, it.rain + 1);
            }
        }

        void nextDay() {
            List<int[]> year = new ArrayList<>();
            int at = -1;
            for (int m = 0; m < months.size(); m++) {
                for (int d = 0; d < months.get(m).length; d++) {
                    if (m == month && d == day) {
                        at = year.size();
                    }
                    year.add(new int[] {m, d});
                }
            }
            int[] then = year.get(Math.floorMod(at + (other ? -1 : 1), year.size()));
            month = then[0];
            day = then[1];
            came++;
            cameMonths.add(month);
        }

        void turn(int pull) {
            int ripe = 0;
            for (int i = 0; i < pull; i++) {
                nextDay();
                for (int c = 0; c < crops.size(); c++) {
                    Crop crop = crops.get(c);
                    if (crop.ripe) {
                        continue;
                    }
                    crop.gotSun = Math.min(999, crop.gotSun + months.get(month).sun);
                    crop.gotRain = Math.min(999, crop.gotRain + months.get(month).rain);
                    if (crop.gotSun >= crop.needSun && crop.gotRain >= crop.needRain) {
                        crop.ripe = true;
                        purse = Math.min(999, purse + crop.value);
                        ripe += 1 << c;
                    }
                }
            }
            if (mule > 0) {
                if (feed < hay) {
                    feed = 0;
                    mule--;
                } else {
                    feed -= hay;
                }
            }
            turn++;
            lines.add(new Line(month, day, pull, ripe));
        }

        int ripeValue() {
            return crops.stream().filter(c -> c.ripe).mapToInt(c -> c.value).sum();
        }
    }

    private final StringBuilder tape = new StringBuilder();
    private final List<List<Clause>> laws = new ArrayList<>();
    private int holds = -1;
    private World told = null;
    private World now = null;
    private World image = null;
    private List<World> acts = new ArrayList<>();
    private final List<int[]> seen = new ArrayList<>();
    private final int[] status = new int[5];
    private int hail = 0;
    private int thieves = 0;

    // ---- reading

    private int at;

    private char look() {
        while (at < tape.length() && tape.charAt(at) == ' ') {
            at++;
        }
        return at < tape.length() ? tape.charAt(at) : 0;
    }

    private void must(boolean so) {
        if (!so) {
            throw new Fault(at);
        }
    }

    private void sign(char c) {
        must(look() == c);
        at++;
    }

    private int number(int digits, int low, int high) {
        look();
        int from = at;
        while (at < tape.length() && "0123456789".indexOf(tape.charAt(at)) >= 0) {
            at++;
        }
        int many = at - from;
        if (many > digits) {
            throw new Fault(from + digits);
        }
        must(many > 0);
        int n = Integer.parseInt(tape.substring(from, at));
        if (n < low || n > high) {
            throw new Fault(at - 1);
        }
        return n;
    }

    private World readPlain() {
        at = 0;
        World w = new World();
        boolean rules = false;
        while (true) {
            char kind = look();
            if (kind == 's' && !rules) {
                at++;
                rules = true;
                readRules(w);
            } else if (kind == 'm' && w.months.size() < 8) {
                at++;
                w.months.add(readMonth());
            } else if (kind == 'c' && w.crops.size() < 5) {
                at++;
                w.crops.add(readCrop());
            } else {
                throw new Fault(at);
            }
            if (look() == 0 && at == tape.length()) {
                must(w.months.size() >= 2 && w.crops.size() >= 1);
                return w;
            }
            sign(';');
        }
    }

    private boolean itemsEnd() {
        char c = look();
        return c == ';' || at >= tape.length();
    }

    private char letter(String letters, String had) {
        char c = look();
        must(letters.indexOf(c) >= 0 && had.indexOf(c) < 0);
        at++;
        return c;
    }

    private void readRules(World w) {
        String had = "";
        while (!itemsEnd()) {
            char c = letter("mfhp", had);
            had += c;
            switch (c) {
                case 'm' -> w.mule = number(2, 1, 30);
                case 'f' -> w.feed = number(2, 0, 99);
                case 'h' -> w.hay = number(2, 0, 9);
                default -> w.purse = number(2, 0, 99);
            }
        }
    }

    private Month readMonth() {
        Month m = new Month();
        String had = "";
        while (!itemsEnd()) {
            char c = letter("lgsrp", had);
            had += c;
            switch (c) {
                case 'l' -> m.length = number(2, 1, 9);
                case 'g' -> m.grease = number(2, 0, 9);
                case 's' -> m.sun = number(2, 0, 9);
                case 'r' -> m.rain = number(2, 0, 9);
                default -> m.pole = number(2, 1, 9);
            }
        }
        return m;
    }

    private Crop readCrop() {
        Crop crop = new Crop();
        String had = "";
        while (!itemsEnd()) {
            char c = letter("srv", had);
            had += c;
            int n = number(2, 0, 99);
            switch (c) {
                case 's' -> crop.needSun = n;
                case 'r' -> crop.needRain = n;
                default -> crop.value = n;
            }
        }
        return crop;
    }

    private List<Clause> readLaw() {
        at = 0;
        List<Clause> clauses = new ArrayList<>();
        while (true) {
            sign('y');
            sign(':');
            clauses.add(readClause());
            if (look() == 0 && at == tape.length()) {
                return clauses;
            }
            sign(';');
        }
    }

    private Clause readClause() {
        char c = look();
        Truth truth = null;
        if (c == '!' || c == '(') {
            truth = condition(0, null);
        } else {
            Sum first = sum(0);
            char d = look();
            if (d == 0 || "=<>".indexOf(d) < 0) {
                return new Clause(null, first);
            }
            truth = condition(0, first);
        }
        sign('?');
        return new Clause(truth, sum(0));
    }

    private Truth condition(int depth, Sum first) {
        List<Truth> any = new ArrayList<>();
        any.add(truth(depth, first));
        while (look() == '|') {
            at++;
            any.add(truth(depth, null));
        }
        return l -> any.stream().anyMatch(t -> t.by(l));
    }

    private Truth truth(int depth, Sum first) {
        List<Truth> all = new ArrayList<>();
        all.add(unit(depth, first));
        while (look() == '&') {
            at++;
            all.add(unit(depth, null));
        }
        return l -> all.stream().allMatch(t -> t.by(l));
    }

    private Truth unit(int depth, Sum first) {
        if (first == null && look() == '!') {
            must(depth < 6);
            at++;
            Truth not = unit(depth + 1, null);
            return l -> !not.by(l);
        }
        if (first == null && look() == '(') {
            must(depth < 6);
            at++;
            Truth in = condition(depth + 1, null);
            sign(')');
            return in;
        }
        Sum left = first == null ? sum(depth) : first;
        char c = look();
        must(c == '=' || c == '<' || c == '>');
        at++;
        Sum right = sum(depth);
        return l -> c == '=' ? left.by(l) == right.by(l) : c == '<' ? left.by(l) < right.by(l) : left.by(l) > right.by(l);
    }

    private static long held(long v) {
        return Math.max(-1000000, Math.min(1000000, v));
    }

    private Sum sum(int depth) {
        Sum all = term(depth);
        while (look() == '+' || look() == '-') {
            boolean plus = look() == '+';
            at++;
            Sum left = all;
            Sum right = term(depth);
            all = l -> held(plus ? left.by(l) + right.by(l) : left.by(l) - right.by(l));
        }
        return all;
    }

    private Sum term(int depth) {
        Sum all = atom(depth);
        while (look() == '*' || look() == '/') {
            boolean times = look() == '*';
            at++;
            Sum left = all;
            Sum right = atom(depth);
            all = l -> times ? held(left.by(l) * right.by(l)) : right.by(l) == 0 ? 0 : left.by(l) / right.by(l);
        }
        return all;
    }

    private Sum atom(int depth) {
        char c = look();
        if (c == '[') {
            must(depth < 6);
            at++;
            Sum in = sum(depth + 1);
            sign(']');
            return in;
        }
        if (c != 0 && "mfgldk".indexOf(c) >= 0) {
            at++;
            return l -> l.get(c);
        }
        int n = number(4, 0, 9999);
        return l -> n;
    }

    // ---- what goes on

    private int pullOf(World w) {
        if (w.mule == 0) {
            return 0;
        }
        Month m = w.months.get(w.month);
        if (holds < 0) {
            return (w.mule + 2 * m.grease) / 6;
        }
        Map<Character, Integer> letters = new HashMap<>();
        letters.put('m', w.mule);
        letters.put('f', w.feed);
        letters.put('g', m.grease);
        letters.put('l', m.length);
        letters.put('d', w.day);
        letters.put('k', w.month);
        for (Clause c : laws.get(holds)) {
            if (c.truth == null || c.truth.by(letters)) {
                return (int) Math.max(0, Math.min(9, c.sum.by(letters)));
            }
        }
        return 0;
    }

    private void go(World w, int n) {
        for (int i = 0; i < n; i++) {
            w.turn(pullOf(w));
        }
    }

    private World behind(int n) {
        World w = now.copy();
        go(w, n);
        return w;
    }

    private boolean hasMonth(int m) {
        return now != null && m >= 0 && m < now.months.size();
    }

    private boolean hasCrop(int c) {
        return now != null && c >= 0 && c < now.crops.size();
    }

    private void act() {
        acts.add(now.copy());
        if (acts.size() > 40) {
            acts.remove(0);
        }
    }

    private int refuse(int ground) {
        status[ground]++;
        return -1;
    }

    // ---- the face

    int feed(int... numbers) {
        StringBuilder more = new StringBuilder();
        for (int n : numbers) {
            for (int shift : new int[] {24, 16, 8, 0}) {
                if ((n >> shift & 255) != 0) {
                    more.append((char) (n >> shift & 255));
                }
            }
        }
        if (tape.length() + more.length() > 240) {
            return -1;
        }
        return tape.append(more).length();
    }

    int end(int n) {
        if (n < 0 || n > tape.length()) {
            return 0;
        }
        tape.setLength(n);
        return 1;
    }

    int fault(int sort) {
        if (sort != 0 && sort != 1) {
            return -2;
        }
        try {
            if (sort == 0) {
                readPlain();
            } else {
                readLaw();
            }
            return -1;
        } catch (Fault f) {
            return f.at;
        }
    }

    int text(int sort) {
        if (sort < 0 || sort > 1 || fault(sort) >= 0 || sort == 1 && laws.size() == 4) {
            return -1;
        }
        if (sort == 1) {
            laws.add(readLaw());
            tape.setLength(0);
            return laws.size() - 1;
        }
        told = readPlain();
        now = told.copy();
        image = null;
        acts.clear();
        seen.clear();
        tape.setLength(0);
        return told.months.size();
    }

    int rule(int what) {
        if (now == null) {
            return -1;
        }
        return switch (what) {
            case 0 -> now.mule;
            case 1 -> now.feed;
            case 2 -> now.hay;
            case 3 -> now.purse;
            default -> -1;
        };
    }

    int month(int month, int what) {
        if (!hasMonth(month)) {
            return -1;
        }
        Month m = now.months.get(month);
        return switch (what) {
            case 0 -> m.length;
            case 1 -> m.grease;
            case 2 -> m.sun;
            case 3 -> m.rain;
            case 4 -> m.pole;
            default -> -1;
        };
    }

    int crop(int crop, int what) {
        if (!hasCrop(crop)) {
            throw new NoSuchElementException();
        }
        Crop c = now.crops.get(crop);
        return switch (what) {
            case 0 -> c.needSun;
            case 1 -> c.needRain;
            case 2 -> c.value;
            case 3 -> c.gotSun;
            case 4 -> c.gotRain;
            case 5 -> c.ripe ? 1 : 0;
            default -> throw new NoSuchElementException();
        };
    }

    int law(int law) {
        if (law < -1 || law >= laws.size()) {
            return 0;
        }
        holds = law;
        return 1;
    }

    int pull() {
        return now == null ? -1 : pullOf(now);
    }

    int turn(int n) {
        if (now == null) {
            return refuse(0);
        }
        if (n < 1 || n > 60) {
            return refuse(1);
        }
        if (now.turn + n > 9999) {
            return refuse(4);
        }
        for (int i = 0; i < n; i++) {
            act();
            go(now, 1);
        }
        return now.month;
    }

    int hay(int n) {
        if (now == null) {
            return refuse(0);
        }
        if (n < 1 || n > 99 || now.feed + n > 99) {
            return refuse(1);
        }
        if (now.purse < n) {
            return refuse(2);
        }
        act();
        now.purse -= n;
        return now.feed += n;
    }

    int grease(int month) {
        if (!hasMonth(month)) {
            return refuse(0);
        }
        if (now.months.get(month).grease == 9) {
            return refuse(1);
        }
        if (now.purse == 0) {
            return refuse(2);
        }
        act();
        now.purse--;
        now.grease(month, 1);
        return now.months.get(month).grease;
    }

    int chip(int month) {
        if (!hasMonth(month)) {
            return refuse(0);
        }
        if (now.months.get(month).sun == 0) {
            return refuse(3);
        }
        act();
        now.chip(month);
        return now.months.get(month).sun;
    }

    int reverse() {
        if (now == null) {
            return refuse(0);
        }
        act();
        now.other = !now.other;
        return now.other ? 1 : 0;
    }

    int buy() {
        if (now == null) {
            return refuse(0);
        }
        if (now.purse < 20) {
            return refuse(2);
        }
        act();
        now.mule = told.mule;
        return now.purse -= 20;
    }

    int sow(int crop) {
        if (!hasCrop(crop)) {
            return refuse(0);
        }
        if (now.purse < 2) {
            return refuse(2);
        }
        if (!now.crops.get(crop).ripe) {
            return refuse(3);
        }
        act();
        Crop c = now.crops.get(crop);
        c.ripe = false;
        c.gotSun = 0;
        c.gotRain = 0;
        return now.purse -= 2;
    }

    int set(int what, int v) {
        if (what < 0 || what > 1 || v < 0 || v > 9 || v == (what == 0 ? hail : thieves)) {
            return 0;
        }
        if (what == 0) {
            hail = v;
        } else {
            thieves = v;
        }
        return 1;
    }

    private long x;

    private int draw(int j) {
        x = x * 6364136223846793005L + 1442695040888963407L;
        return (int) Long.remainderUnsigned(x >>> 33, j);
    }

    int decades(int n, long seed) {
        if (now == null || n < 1 || n > 60 || now.turn + n > 9999) {
            return -1;
        }
        x = seed;
        for (int i = 0; i < n; i++) {
            act();
            if (draw(10) < hail) {
                now.chip(draw(now.months.size()));
            }
            if (draw(10) < thieves) {
                now.feed /= 2;
            }
            go(now, 1);
        }
        return now.month;
    }

    int status(int what) {
        return what < 0 || what > 4 ? -1 : status[what];
    }

    int undo() {
        if (acts.isEmpty()) {
            return -1;
        }
        now = acts.remove(acts.size() - 1);
        return acts.size();
    }

    int log(int i, int what) {
        if (now == null || i < 0 || i >= Math.min(60, now.lines.size())) {
            return -1;
        }
        Line line = now.lines.get(now.lines.size() - 1 - i);
        return switch (what) {
            case 0 -> line.month;
            case 1 -> line.day;
            case 2 -> line.pull;
            case 3 -> line.ripe;
            default -> -1;
        };
    }

    int ahead(int n, boolean other, int what) {
        if (now == null || n < 0 || n > 60 || what < 0 || what > 1) {
            return -1;
        }
        World w = now.copy();
        w.other ^= other;
        go(w, n);
        return what == 0 ? w.month : w.day;
    }

    int soonest(int month) {
        for (int n = 0; hasMonth(month) && n <= 200; n++) {
            if (pathOf(now, 200).get(n) == month) {
                return n;
            }
        }
        return -1;
    }

    private List<Integer> pathOf(World from, int n) {
        List<Integer> path = new ArrayList<>();
        World w = from.copy();
        w.lines.clear();
        path.add(w.month);
        for (int i = 0; i < n; i++) {
            go(w, 1);
            path.add(w.month);
        }
        return path;
    }

    int least(int n) {
        if (now == null || n < 1 || n > 60) {
            return -1;
        }
        for (int more = 0; more < 100; more++) {
            World w = now.copy();
            w.feed += more;
            go(w, n);
            if (w.crops.stream().allMatch(c -> c.ripe)) {
                return more;
            }
        }
        return -1;
    }

    int ripens(int crop) {
        if (!hasCrop(crop)) {
            return -1;
        }
        World w = now.copy();
        for (int n = 0; n <= 200; n++) {
            if (w.crops.get(crop).ripe) {
                return n;
            }
            go(w, 1);
        }
        return -1;
    }

    int oil(int k, int n, int what) {
        if (now == null || k < 1 || k > 3 || n < 1 || n > 40 || what < 0 || what > 1) {
            return -1;
        }
        int bestValue = -1;
        int bestRow = -1;
        for (int row = 0; row < 1000; row++) {
            String digits = String.format("%0" + k + "d", row);
            boolean fits = digits.length() == k;
            for (int i = 0; i < digits.length(); i++) {
                fits &= hasMonth(digits.charAt(i) - '0') && (i == 0 || digits.charAt(i) >= digits.charAt(i - 1));
            }
            if (!fits) {
                continue;
            }
            World w = now.copy();
            for (char c : digits.toCharArray()) {
                w.grease(c - '0', 1);
            }
            go(w, n);
            if (w.ripeValue() - now.ripeValue() > bestValue) {
                bestValue = w.ripeValue() - now.ripeValue();
                bestRow = row;
            }
        }
        return what == 0 ? bestRow : bestValue;
    }

    int game(int one, int other, int n, int a, int b, int what) {
        if (!hasMonth(one) || !hasMonth(other) || one == other || n < 1 || n > 40 || a < 0 || a > 9 || b < 0 || b > 9
            || what < 0 || what > 1) {
            return -1000000;
        }
        World w = now.copy();
        w.feed += a + b;
        go(w, n);
        int whose = what == 0 ? one : other;
        return 2 * (int) w.cameMonths.stream().filter(m -> m == whose).count() - (what == 0 ? a : b);
    }

    int rests(int one, int other, int n, int i) {
        if (game(one, other, n, 0, 0, 0) == -1000000) {
            return -1;
        }
        int[][][] has = new int[10][10][2];
        for (int a = 0; a < 10; a++) {
            for (int b = 0; b < 10; b++) {
                has[a][b] = new int[] {game(one, other, n, a, b, 0), game(one, other, n, a, b, 1)};
            }
        }
        List<Integer> rests = new ArrayList<>();
        for (int both = 0; both < 100; both++) {
            boolean rest = true;
            for (int c = 0; c < 10; c++) {
                rest &= has[c][both % 10][0] <= has[both / 10][both % 10][0];
                rest &= has[both / 10][c][1] <= has[both / 10][both % 10][1];
            }
            if (rest) {
                rests.add(both);
            }
        }
        return i == -1 ? rests.size() : i >= 0 && i < rests.size() ? rests.get(i) : -1;
    }

    int shares(int month, int n, int c) {
        if (!hasMonth(month) || n < 1 || n > 60 || c < 0 || c > 999) {
            return -1;
        }
        List<Integer> days = behind(n).cameMonths;
        return days.isEmpty() ? 0 : c * (int) days.stream().filter(m -> m == month).count() / days.size();
    }

    int ride(int from, int to) {
        if (!hasMonth(from) || !hasMonth(to) || from == to) {
            return -1;
        }
        List<Integer> path = pathOf(now, 401);
        int first = path.indexOf(from);
        if (first < 0 || first > 200) {
            return -1;
        }
        for (int more = 1; more <= 200; more++) {
            if (path.get(first + more) == to) {
                return more;
            }
        }
        return -1;
    }

    int level(int one, int other) {
        if (!hasMonth(one) || !hasMonth(other)) {
            return -1;
        }
        for (int i = 0; i < 100; i++) {
            if ((now.came + i) % now.months.get(one).pole == 0 && (now.came + i) % now.months.get(other).pole == 0) {
                return i;
            }
        }
        return -1;
    }

    int year() {
        return now == null ? -1 : now.months.stream().mapToInt(m -> m.length).sum();
    }

    int never(int n) {
        if (now == null || n < 1 || n > 60) {
            return -1;
        }
        List<Integer> days = behind(n).cameMonths;
        int bits = 0;
        for (int m = 0; m < now.months.size(); m++) {
            bits += days.contains(m) ? 0 : 1 << m;
        }
        return bits;
    }

    int seen(int n, int month, boolean is) {
        if (!hasMonth(month) || n < 1 || n > 40 || seen.size() == 10) {
            return -1;
        }
        seen.add(new int[] {n, month, is ? 1 : 0});
        return seen.size();
    }

    private Map<Integer, List<Integer>> suspects(int g) {
        Map<Integer, List<Integer>> fitting = new java.util.TreeMap<>();
        for (int m = 0; m <= 9; m++) {
            if (m < 9 && !hasMonth(m)) {
                continue;
            }
            World w = told.copy();
            if (m < 9) {
                w.grease(m, g);
            }
            List<Integer> path = pathOf(w, 40);
            if (seen.stream().allMatch(s -> path.get(s[0]) == s[1] == (s[2] == 1))) {
                fitting.put(m, path);
            }
        }
        return fitting;
    }

    int who(int g, int i) {
        if (now == null || g < 1 || g > 5) {
            return -1;
        }
        List<Integer> names = new ArrayList<>(suspects(g).keySet());
        return i == -1 ? names.size() : i >= 0 && i < names.size() ? names.get(i) : -1;
    }

    int best(int g) {
        if (now == null || g < 1 || g > 5 || suspects(g).isEmpty()) {
            return -1;
        }
        int best = -1;
        int fewest = 100;
        for (int n = 1; n <= 40; n++) {
            int[] tell = new int[8];
            for (List<Integer> path : suspects(g).values()) {
                tell[path.get(n)]++;
            }
            int most = Arrays.stream(tell).max().getAsInt();
            if (most < fewest) {
                fewest = most;
                best = n;
            }
        }
        return best;
    }

    private long alive(int n, int chance) {
        long[] parts = new long[32];
        parts[now.mule] = 1000000000L;
        for (int i = 0; i < n; i++) {
            long[] then = parts.clone();
            for (int m = 1; m < 32; m++) {
                long lost = parts[m] * chance / 100;
                then[m] -= lost;
                then[m - 1] += lost;
            }
            parts = then;
        }
        return Arrays.stream(parts).skip(1).sum();
    }

    int odds(int n, int chance) {
        return now == null || n < 0 || n > 30 || chance < 0 || chance > 100 ? -1 : (int) alive(n, chance);
    }

    int price(int n, int chance, int c) {
        if (now == null || n < 0 || n > 30 || chance < 0 || chance > 100 || c < 1 || c > 999) {
            return -1;
        }
        return (int) -Math.floorDiv(-c * (1000000000L - alive(n, chance)), 1000000000L);
    }

    int most(int what) {
        if (now == null) {
            return -1;
        }
        int found = -1;
        int best = Integer.MIN_VALUE;
        int many = what == 2 ? now.crops.size() : now.months.size();
        for (int i = 0; i < many && what >= 0 && what <= 2; i++) {
            int worth;
            if (what == 2) {
                Crop c = now.crops.get(i);
                if (c.ripe) {
                    continue;
                }
                worth = Math.max(0, c.needSun - c.gotSun) + Math.max(0, c.needRain - c.gotRain);
            } else {
                Month m = now.months.get(i);
                worth = what == 0 ? m.sun + m.rain : -m.rain;
            }
            if (worth > best) {
                best = worth;
                found = i;
            }
        }
        return found;
    }

    int worths() {
        return now == null ? -1 : now.crops.stream().filter(c -> !c.ripe).mapToInt(c -> c.value).sum();
    }

    int lasts() {
        if (now == null) {
            return -1;
        }
        World w = now.copy();
        for (int n = 0; n <= 200; n++) {
            if (w.mule == 0) {
                return n;
            }
            go(w, 1);
        }
        return -1;
    }

    int image() {
        if (now == null) {
            return -1;
        }
        image = now.copy();
        return now.turn;
    }

    int back() {
        if (image == null) {
            return -1;
        }
        now = image.copy();
        acts.clear();
        return now.turn;
    }

    int count(int what) {
        World w = now == null ? new World() : now;
        int ripe = 0;
        for (int c = 0; c < w.crops.size(); c++) {
            ripe += w.crops.get(c).ripe ? 1 << c : 0;
        }
        int[] counts = {w.months.size(), w.crops.size(), laws.size(), tape.length(), holds, w.turn, w.month, w.day,
            w.other ? 1 : 0, ripe, w.came % 2520, hail, thieves, seen.size(), Math.min(60, w.lines.size()), acts.size()};
        return what < 0 || what > 15 ? -1000000 : counts[what];
    }
}
