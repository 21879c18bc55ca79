import java.util.NoSuchElementException;

/** A roundabout of months that a mule pulls; ../shared/DOC.md says what each call promises. */
public final class MuleSeasons {
    public static final int NONE = -1;
    public static final int HIDDEN = -1000000;

    // The grounds of a refusal, as STATUS numbers them.
    private static final int NO_SUCH = 0;
    private static final int TOO_MUCH = 1;
    private static final int TOO_POOR = 2;
    private static final int CANNOT_BE = 3;
    private static final int TOO_LATE = 4;
    private static final int GROUNDS = 5;

    private static final int MOST_MONTHS = 8;
    private static final int MOST_CROPS = 5;
    private static final int MOST_LAWS = 4;
    private static final int MOST_LOGGED = 60;
    private static final int MOST_ACTS = 40;
    private static final int MOST_SEEN = 10;
    private static final int TAPE_ROOM = 240;
    private static final int LAST_TURN = 9999;
    private static final int FARTHEST = 200;
    private static final int MOST_TURNS = 60;
    private static final int FEW_TURNS = 40;
    private static final int MOST_FEED = 99;
    private static final int MOST_PURSE = 999;
    private static final int MOST_GOT = 999;
    private static final int NINE = 9;
    private static final int MULE_PRICE = 20;
    private static final int SOW_PRICE = 2;
    private static final int ALL_DAYS = 2520;
    private static final long ALL_PARTS = 1000000000L;

    // Where each number stands in the row of a Season; the first four in the order of the letters m f h p.
    private static final int MULE = 0;
    private static final int FEED = 1;
    private static final int HAY = 2;
    private static final int PURSE = 3;
    private static final int WAY = 4;
    private static final int MONTH = 5;
    private static final int DAY = 6;
    private static final int CAME = 7;
    private static final int TURN = 8;
    private static final int MONTHS = 9;
    private static final int CROPS = 10;
    private static final int LOGGED = 11;
    private static final int LOG_NEXT = 12;
    private static final int FIRST_MONTH = 13;
    private static final int MONTH_ROOM = 5;
    private static final int FIRST_CROP = FIRST_MONTH + MOST_MONTHS * MONTH_ROOM;
    private static final int CROP_ROOM = 6;
    private static final int FIRST_LOG = FIRST_CROP + MOST_CROPS * CROP_ROOM;
    private static final int SEASON_ROOM = FIRST_LOG + MOST_LOGGED;

    // What there is of a month, in the order of the letters l g s r p.
    private static final int LENGTH = 0;
    private static final int GREASE = 1;
    private static final int SUN = 2;
    private static final int RAIN = 3;
    private static final int POLE = 4;

    // What there is of a crop; the first three in the order of the letters s r v.
    private static final int SUN_NEED = 0;
    private static final int RAIN_NEED = 1;
    private static final int VALUE = 2;
    private static final int SUN_GOT = 3;
    private static final int RAIN_GOT = 4;
    private static final int RIPE = 5;

    private final Tape tape = new Tape();
    private final PlainReader plainReader = new PlainReader(tape);
    private final LawReader lawReader = new LawReader(tape);
    private final Laws laws = new Laws();
    private final Season told = new Season();
    private final Season now = new Season();
    private final Season kept = new Season();
    private final Acts acts = new Acts();
    private final Forecast forecast = new Forecast(now, laws);
    private final Witness witness = new Witness(told, laws);
    private final Draws draws = new Draws();
    private final int[] refused = new int[GROUNDS];
    private boolean hasPlain;
    private boolean hasImage;
    private int hail;
    private int thieves;

    public MuleSeasons() {
    }

    // ---- the tape and what is read from it

    public int feed(int a, int b, int c, int d, int e) {
        int more = Tape.bytesIn(a) + Tape.bytesIn(b) + Tape.bytesIn(c) + Tape.bytesIn(d) + Tape.bytesIn(e);
        if (tape.size() + more > TAPE_ROOM) {
            return NONE;
        }
        tape.addNumber(a);
        tape.addNumber(b);
        tape.addNumber(c);
        tape.addNumber(d);
        tape.addNumber(e);
        return tape.size();
    }

    public boolean end(int n) {
        if (n < 0 || n > tape.size()) {
            return false;
        }
        tape.cut(n);
        return true;
    }

    public int fault(int sort) {
        switch (sort) {
            case 0:
                return plainReader.readPlain();
            case 1:
                return lawReader.readLaw();
            default:
                return -2;
        }
    }

    public int text(int sort) {
        if (sort == 0) {
            return plainReader.readPlain() == NONE ? takePlain() : NONE;
        }
        if (sort == 1 && laws.many < MOST_LAWS) {
            return lawReader.readLaw() == NONE ? takeLaw() : NONE;
        }
        return NONE;
    }

    private int takePlain() {
        told.become(plainReader.draft);
        now.become(told);
        acts.forget();
        witness.forget();
        hasPlain = true;
        hasImage = false;
        tape.cut(0);
        return now.get(MONTHS);
    }

    private int takeLaw() {
        int number = laws.addLaw(lawReader.code, lawReader.size);
        tape.cut(0);
        return number;
    }

    // ---- how it is now

    public int rule(int what) {
        return hasPlain && what >= MULE && what <= PURSE ? now.get(what) : NONE;
    }

    public int month(int month, int what) {
        return now.hasMonth(month) && what >= LENGTH && what <= POLE ? now.ofMonth(month, what) : NONE;
    }

    public int crop(int crop, int what) throws NoSuchElementException {
        if (!now.hasCrop(crop) || what < SUN_NEED || what > RIPE) {
            throw new NoSuchElementException("no such crop");
        }
        return now.ofCrop(crop, what);
    }

    public boolean law(int law) {
        if (law < NONE || law >= laws.many) {
            return false;
        }
        laws.holds = law;
        return true;
    }

    public int pull() {
        return hasPlain ? laws.pullFor(now) : NONE;
    }

    public int status(int what) {
        return what >= 0 && what < GROUNDS ? cell(refused, what) : NONE;
    }

    public int log(int i, int what) {
        return i >= 0 && i < now.get(LOGGED) && what >= 0 && what <= 3 ? now.logged(i, what) : NONE;
    }

    public int year() {
        return hasPlain ? now.daysOfYear() : NONE;
    }

    public int level(int one, int other) {
        return now.hasMonth(one) && now.hasMonth(other) ? now.firstLevel(one, other) : NONE;
    }

    public int most(int what) {
        if (!hasPlain) {
            return NONE;
        }
        switch (what) {
            case 0:
                return now.richest();
            case 1:
                return now.driest();
            case 2:
                return now.neediest();
            default:
                return NONE;
        }
    }

    public int worths() {
        return hasPlain ? now.unripeValue() : NONE;
    }

    public int count(int what) {
        switch (what) {
            case 0:
                return now.get(MONTHS);
            case 1:
                return now.get(CROPS);
            case 2:
                return laws.many;
            case 3:
                return tape.size();
            case 4:
                return laws.holds;
            case 5:
                return now.get(TURN);
            case 6:
                return now.get(MONTH);
            case 7:
                return now.get(DAY);
            case 8:
                return now.get(WAY);
            case 9:
                return now.ripeBits();
            case 10:
                return now.get(CAME);
            case 11:
                return hail;
            case 12:
                return thieves;
            case 13:
                return witness.many;
            case 14:
                return now.get(LOGGED);
            case 15:
                return acts.many;
            default:
                return HIDDEN;
        }
    }

    // ---- acts

    private int refuse(int ground) {
        setCell(refused, ground, cell(refused, ground) + 1);
        return NONE;
    }

    public int turn(int n) {
        if (!hasPlain) {
            return refuse(NO_SUCH);
        }
        if (n < 1 || n > MOST_TURNS) {
            return refuse(TOO_MUCH);
        }
        if (now.get(TURN) + n > LAST_TURN) {
            return refuse(TOO_LATE);
        }
        for (int i = 0; i < n; i++) {
            acts.keep(now);
            now.takeTurns(1, laws);
        }
        return now.get(MONTH);
    }

    public int hay(int n) {
        if (!hasPlain) {
            return refuse(NO_SUCH);
        }
        if (n < 1 || n > MOST_FEED || now.get(FEED) + n > MOST_FEED) {
            return refuse(TOO_MUCH);
        }
        if (now.get(PURSE) < n) {
            return refuse(TOO_POOR);
        }
        acts.keep(now);
        now.add(PURSE, -n);
        now.add(FEED, n);
        return now.get(FEED);
    }

    public int grease(int month) {
        if (!now.hasMonth(month)) {
            return refuse(NO_SUCH);
        }
        if (now.ofMonth(month, GREASE) >= NINE) {
            return refuse(TOO_MUCH);
        }
        if (now.get(PURSE) < 1) {
            return refuse(TOO_POOR);
        }
        acts.keep(now);
        now.add(PURSE, -1);
        now.greaseMonth(month, 1);
        return now.ofMonth(month, GREASE);
    }

    public int chip(int month) {
        if (!now.hasMonth(month)) {
            return refuse(NO_SUCH);
        }
        if (now.ofMonth(month, SUN) < 1) {
            return refuse(CANNOT_BE);
        }
        acts.keep(now);
        now.chipMonth(month);
        return now.ofMonth(month, SUN);
    }

    public int reverse() {
        if (!hasPlain) {
            return refuse(NO_SUCH);
        }
        acts.keep(now);
        now.turnRound();
        return now.get(WAY);
    }

    public int buy() {
        if (!hasPlain) {
            return refuse(NO_SUCH);
        }
        if (now.get(PURSE) < MULE_PRICE) {
            return refuse(TOO_POOR);
        }
        acts.keep(now);
        now.add(PURSE, -MULE_PRICE);
        now.put(MULE, told.get(MULE));
        return now.get(PURSE);
    }

    public int sow(int crop) {
        if (!now.hasCrop(crop)) {
            return refuse(NO_SUCH);
        }
        if (now.get(PURSE) < SOW_PRICE) {
            return refuse(TOO_POOR);
        }
        if (now.ofCrop(crop, RIPE) == 0) {
            return refuse(CANNOT_BE);
        }
        acts.keep(now);
        now.add(PURSE, -SOW_PRICE);
        now.sowCrop(crop);
        return now.get(PURSE);
    }

    public boolean set(int what, int v) {
        if (what < 0 || what > 1 || v < 0 || v > NINE || v == (what == 0 ? hail : thieves)) {
            return false;
        }
        if (what == 0) {
            hail = v;
        } else {
            thieves = v;
        }
        return true;
    }

    public int decades(int n, long seed) {
        if (!hasPlain || n < 1 || n > MOST_TURNS || now.get(TURN) + n > LAST_TURN) {
            return NONE;
        }
        draws.begin(seed);
        for (int i = 0; i < n; i++) {
            acts.keep(now);
            strike();
            now.takeTurns(1, laws);
        }
        return now.get(MONTH);
    }

    private void strike() {
        if (draws.below(10) < hail) {
            int month = draws.below(now.get(MONTHS));
            if (now.ofMonth(month, SUN) > 0) {
                now.chipMonth(month);
            }
        }
        if (draws.below(10) < thieves) {
            now.put(FEED, now.get(FEED) / 2);
        }
    }

    public int undo() {
        return acts.takeBack(now) ? acts.many : NONE;
    }

    public int image() {
        if (!hasPlain) {
            return NONE;
        }
        kept.become(now);
        hasImage = true;
        return now.get(TURN);
    }

    public int back() {
        if (!hasImage) {
            return NONE;
        }
        now.become(kept);
        acts.forget();
        return now.get(TURN);
    }

    // ---- what is asked apart

    public int ahead(int n, boolean other, int what) {
        if (!hasPlain || n < 0 || n > MOST_TURNS || what < 0 || what > 1) {
            return NONE;
        }
        return forecast.placeBehind(n, other, what == 0 ? MONTH : DAY);
    }

    public int soonest(int month) {
        return now.hasMonth(month) ? forecast.turnsTo(month) : NONE;
    }

    public int least(int n) {
        return hasPlain && n >= 1 && n <= MOST_TURNS ? forecast.leastFeed(n) : NONE;
    }

    public int ripens(int crop) {
        return now.hasCrop(crop) ? forecast.turnsToRipe(crop) : NONE;
    }

    public int oil(int k, int n, int what) {
        if (!hasPlain || k < 1 || k > 3 || n < 1 || n > FEW_TURNS || what < 0 || what > 1) {
            return NONE;
        }
        forecast.seekOil(k, n);
        return what == 0 ? forecast.oilRow : forecast.oilValue;
    }

    private boolean canPlay(int one, int other, int n) {
        return now.hasMonth(one) && now.hasMonth(other) && one != other && n >= 1 && n <= FEW_TURNS;
    }

    public int game(int one, int other, int n, int x, int y, int what) {
        if (!canPlay(one, other, n) || x < 0 || x > NINE || y < 0 || y > NINE || what < 0 || what > 1) {
            return HIDDEN;
        }
        return what == 0 ? forecast.daysWith(x + y, n, one) * 2 - x : forecast.daysWith(x + y, n, other) * 2 - y;
    }

    public int rests(int one, int other, int n, int i) {
        if (!canPlay(one, other, n) || i < NONE) {
            return NONE;
        }
        return forecast.restAt(one, other, n, i);
    }

    public int shares(int month, int n, int c) {
        if (!now.hasMonth(month) || n < 1 || n > MOST_TURNS || c < 0 || c > 999) {
            return NONE;
        }
        return forecast.shareOf(month, n, c);
    }

    public int ride(int from, int to) {
        return now.hasMonth(from) && now.hasMonth(to) && from != to ? forecast.rideTurns(from, to) : NONE;
    }

    public int never(int n) {
        return hasPlain && n >= 1 && n <= MOST_TURNS ? forecast.neverBits(n) : NONE;
    }

    public int lasts() {
        return hasPlain ? forecast.turnsToDeath() : NONE;
    }

    public int odds(int n, int chance) {
        if (!hasPlain || n < 0 || n > 30 || chance < 0 || chance > 100) {
            return NONE;
        }
        return (int) (ALL_PARTS - forecast.deadParts(n, chance));
    }

    public int price(int n, int chance, int c) {
        if (!hasPlain || n < 0 || n > 30 || chance < 0 || chance > 100 || c < 1 || c > 999) {
            return NONE;
        }
        return (int) ((c * forecast.deadParts(n, chance) + ALL_PARTS - 1) / ALL_PARTS);
    }

    // ---- what was seen

    public int seen(int n, int month, boolean is) {
        if (!told.hasMonth(month) || n < 1 || n > FEW_TURNS || witness.many >= MOST_SEEN) {
            return NONE;
        }
        return witness.addSeen(n, month, is);
    }

    public int who(int g, int i) {
        if (!hasPlain || g < 1 || g > 5 || i < NONE) {
            return NONE;
        }
        witness.tryAll(g);
        return witness.suspectAt(i);
    }

    public int best(int g) {
        if (!hasPlain || g < 1 || g > 5) {
            return NONE;
        }
        witness.tryAll(g);
        return witness.whenToLook();
    }

    // ---- rows

    private static int cell(int[] row, int i) {
        return row == null || i < 0 || i >= row.length ? 0 : row[i];
    }

    private static void setCell(int[] row, int i, int v) {
        if (row != null && i >= 0 && i < row.length) {
            row[i] = v;
        }
    }

    /** The bytes that were fed and are not read yet. */
    private static final class Tape {
        private static final int OVER = -1;
        private final int[] bytes = new int[TAPE_ROOM];
        private int many;

        private static int bytesIn(int number) {
            int found = 0;
            for (int shift = 24; shift >= 0; shift -= 8) {
                found += (number >>> shift & 255) == 0 ? 0 : 1;
            }
            return found;
        }

        private void addNumber(int number) {
            for (int shift = 24; shift >= 0; shift -= 8) {
                int part = number >>> shift & 255;
                if (part != 0 && many < TAPE_ROOM) {
                    setCell(bytes, many, part);
                    many++;
                }
            }
        }

        private int size() {
            return many;
        }

        private int byteAt(int i) {
            return i < 0 || i >= many || i >= bytes.length ? OVER : bytes[i];
        }

        private void cut(int n) {
            many = n;
        }
    }

    /** Goes along the tape and holds the first place where it could not go on. */
    private static final class Cursor {
        private static final int BLANK = 32;
        private final Tape tape;
        private int at;
        private int fault;

        private Cursor(Tape tape) {
            this.tape = tape;
        }

        private void begin() {
            at = 0;
            fault = NONE;
        }

        private boolean failed() {
            return fault != NONE;
        }

        private void fail() {
            if (fault == NONE) {
                fault = at;
            }
        }

        /** The next sign behind the blanks, Tape.OVER at the end. */
        private int look() {
            int size = tape.size();
            while (at < size && tape.byteAt(at) == BLANK) {
                at++;
            }
            return tape.byteAt(at);
        }

        /** Which of the letters the next sign is, NONE if it is none of them. */
        private int lookFor(String letters) {
            int sign = look();
            return sign < 0 ? NONE : letters.indexOf((char) sign);
        }

        private void step() {
            at++;
        }

        private void expect(int sign) {
            if (look() == sign) {
                at++;
            } else {
                fail();
            }
        }

        private boolean onDigit() {
            int sign = tape.byteAt(at);
            return sign >= '0' && sign <= '9';
        }

        private int number(int digits, int low, int high) {
            look();
            if (!onDigit()) {
                fail();
                return 0;
            }
            int n = 0;
            for (int i = 0; i < digits && onDigit(); i++) {
                n = n * 10 + tape.byteAt(at) - '0';
                at++;
            }
            if (onDigit()) {
                fail();
            } else if (n < low || n > high) {
                at--;
                fail();
            }
            return n;
        }
    }

    /** Reads the tape as a PLAIN into a draft. */
    private static final class PlainReader {
        private static final int RULES = 0;
        private static final int OF_MONTH = 1;
        private static final int OF_CROP = 2;
        private static final int WIDTH = 5;
        private static final String KINDS = "smc";
        private static final String RULE_LETTERS = "mfhp";
        private static final String MONTH_LETTERS = "lgsrp";
        private static final String CROP_LETTERS = "srv";
        // Of each kind WIDTH numbers, in the order of its letters.
        private static final int[] USUAL = {12, 30, 2, 10, 0, 3, 0, 3, 3, 4, 10, 10, 10, 0, 0};
        private static final int[] LOWEST = {1, 0, 0, 0, 0, 1, 0, 0, 0, 1, 0, 0, 0, 0, 0};
        private static final int[] HIGHEST = {30, 99, 9, 99, 0, 9, 9, 9, 9, 9, 99, 99, 99, 0, 0};

        private final Cursor cursor;
        private final Season draft = new Season();
        private boolean hasRules;

        private PlainReader(Tape tape) {
            cursor = new Cursor(tape);
        }

        private int readPlain() {
            cursor.begin();
            draft.clear();
            hasRules = false;
            putUsual(RULES, MULE);
            readClause();
            for (int i = 0; i < TAPE_ROOM && !cursor.failed() && cursor.look() == ';'; i++) {
                cursor.step();
                readClause();
            }
            if (cursor.look() != Tape.OVER || draft.get(MONTHS) < 2 || draft.get(CROPS) < 1) {
                cursor.fail();
            }
            return cursor.fault;
        }

        private void putUsual(int kind, int place) {
            int width = lettersOf(kind).length();
            for (int i = 0; i < width; i++) {
                draft.put(place + i, cell(USUAL, kind * WIDTH + i));
            }
        }

        private static String lettersOf(int kind) {
            if (kind == RULES) {
                return RULE_LETTERS;
            }
            return kind == OF_MONTH ? MONTH_LETTERS : CROP_LETTERS;
        }

        private void readClause() {
            int kind = cursor.lookFor(KINDS);
            if (kind < 0 || !hasRoom(kind)) {
                cursor.fail();
                return;
            }
            cursor.step();
            int place = beginClause(kind);
            putUsual(kind, place);
            readItems(kind, place);
        }

        private boolean hasRoom(int kind) {
            if (kind == RULES) {
                return !hasRules;
            }
            return kind == OF_MONTH ? draft.get(MONTHS) < MOST_MONTHS : draft.get(CROPS) < MOST_CROPS;
        }

        /** Counts the clause and answers where its numbers go. */
        private int beginClause(int kind) {
            if (kind == RULES) {
                hasRules = true;
                return MULE;
            }
            if (kind == OF_MONTH) {
                draft.add(MONTHS, 1);
                return FIRST_MONTH + (draft.get(MONTHS) - 1) * MONTH_ROOM;
            }
            draft.add(CROPS, 1);
            return FIRST_CROP + (draft.get(CROPS) - 1) * CROP_ROOM;
        }

        private void readItems(int kind, int place) {
            String letters = lettersOf(kind);
            int had = 0;
            for (int i = 0; i <= WIDTH && !cursor.failed(); i++) {
                int sign = cursor.look();
                if (sign == ';' || sign == Tape.OVER) {
                    return;
                }
                int letter = cursor.lookFor(letters);
                if (letter < 0 || (had >> letter & 1) == 1) {
                    cursor.fail();
                    return;
                }
                had |= 1 << letter;
                cursor.step();
                int bound = kind * WIDTH + letter;
                draft.put(place + letter, cursor.number(2, cell(LOWEST, bound), cell(HIGHEST, bound)));
            }
        }
    }

    /** Reads the tape as a LAW into the words that Laws works through, in the order in which they are worked. */
    private static final class LawReader {
        private static final int DEEPEST = 6;
        private final Cursor cursor;
        private final int[] code = new int[TAPE_ROOM];
        private int size;

        private LawReader(Tape tape) {
            cursor = new Cursor(tape);
        }

        private int readLaw() {
            cursor.begin();
            size = 0;
            readClause();
            for (int i = 0; i < TAPE_ROOM && !cursor.failed() && cursor.look() == ';'; i++) {
                cursor.step();
                readClause();
            }
            if (cursor.look() != Tape.OVER) {
                cursor.fail();
            }
            return cursor.fault;
        }

        private void write(int kind, int arg) {
            setCell(code, size, kind * Laws.WORD + arg);
            size++;
        }

        private void readClause() {
            cursor.expect('y');
            cursor.expect(':');
            int sign = cursor.look();
            boolean asks = sign == '!' || sign == '(';
            if (!asks) {
                readSum(0);
                asks = isComparison(cursor.look());
                if (asks) {
                    readCondition(0, true);
                }
            } else {
                readCondition(0, false);
            }
            if (asks) {
                cursor.expect('?');
                int skip = size;
                write(Laws.SKIP, 0);
                readSum(0);
                write(Laws.GIVE, 0);
                setCell(code, skip, Laws.SKIP * Laws.WORD + size);
            } else {
                write(Laws.GIVE, 0);
            }
        }

        private static boolean isComparison(int sign) {
            return sign == '=' || sign == '<' || sign == '>';
        }

        /** begun: the first sum of it was read already. */
        private void readCondition(int depth, boolean begun) {
            readTruth(depth, begun);
            for (int i = 0; i < TAPE_ROOM && !cursor.failed() && cursor.look() == '|'; i++) {
                cursor.step();
                readTruth(depth, false);
                write(Laws.SIGN, '|');
            }
        }

        private void readTruth(int depth, boolean begun) {
            readUnit(depth, begun);
            for (int i = 0; i < TAPE_ROOM && !cursor.failed() && cursor.look() == '&'; i++) {
                cursor.step();
                readUnit(depth, false);
                write(Laws.SIGN, '&');
            }
        }

        private void readUnit(int depth, boolean begun) {
            if (cursor.failed()) {
                return;
            }
            int sign = cursor.look();
            if (!begun && (sign == '!' || sign == '(')) {
                readNested(depth, sign);
                return;
            }
            if (!begun) {
                readSum(depth);
            }
            int comparison = cursor.look();
            if (cursor.failed() || !isComparison(comparison)) {
                cursor.fail();
                return;
            }
            cursor.step();
            readSum(depth);
            write(Laws.SIGN, comparison);
        }

        private void readNested(int depth, int sign) {
            if (depth >= DEEPEST) {
                cursor.fail();
                return;
            }
            cursor.step();
            if (sign == '!') {
                readUnit(depth + 1, false);
                write(Laws.SIGN, '!');
            } else {
                readCondition(depth + 1, false);
                cursor.expect(')');
            }
        }

        private void readSum(int depth) {
            readTerm(depth);
            for (int i = 0; i < TAPE_ROOM && !cursor.failed(); i++) {
                int sign = cursor.look();
                if (sign != '+' && sign != '-') {
                    return;
                }
                cursor.step();
                readTerm(depth);
                write(Laws.SIGN, sign);
            }
        }

        private void readTerm(int depth) {
            readAtom(depth);
            for (int i = 0; i < TAPE_ROOM && !cursor.failed(); i++) {
                int sign = cursor.look();
                if (sign != '*' && sign != '/') {
                    return;
                }
                cursor.step();
                readAtom(depth);
                write(Laws.SIGN, sign);
            }
        }

        private void readAtom(int depth) {
            if (cursor.failed()) {
                return;
            }
            int sign = cursor.look();
            int letter = cursor.lookFor(Laws.LETTERS);
            if (letter >= 0) {
                cursor.step();
                write(Laws.LETTER, letter);
            } else if (sign != '[') {
                write(Laws.NUMBER, cursor.number(4, 0, 9999));
            } else if (depth >= DEEPEST) {
                cursor.fail();
            } else {
                cursor.step();
                readSum(depth + 1);
                cursor.expect(']');
            }
        }
    }

    /** The laws that were told, as words of kind times WORD and what it is; and how far the mule pulls by them. */
    private static final class Laws {
        private static final String LETTERS = "mfgldk";
        private static final int WORD = 10000;
        private static final int NUMBER = 0;
        private static final int LETTER = 1;
        private static final int SIGN = 2;
        private static final int SKIP = 3;
        private static final int GIVE = 4;
        private static final int FARTHEST_NUMBER = 1000000;

        private final int[] code = new int[MOST_LAWS * TAPE_ROOM];
        private final int[] sizes = new int[MOST_LAWS];
        private final int[] values = new int[6];
        private final int[] stack = new int[64];
        private int many;
        private int holds = NONE;
        private int top;

        private int addLaw(int[] words, int size) {
            for (int i = 0; i < size && i < TAPE_ROOM; i++) {
                setCell(code, many * TAPE_ROOM + i, cell(words, i));
            }
            setCell(sizes, many, size);
            many++;
            return many - 1;
        }

        private int pullFor(Season season) {
            int mule = season.get(MULE);
            if (mule < 1) {
                return 0;
            }
            int month = season.get(MONTH);
            int grease = season.ofMonth(month, GREASE);
            if (holds == NONE) {
                return (mule + 2 * grease) / 6;
            }
            setCell(values, 0, mule);
            setCell(values, 1, season.get(FEED));
            setCell(values, 2, grease);
            setCell(values, 3, season.ofMonth(month, LENGTH));
            setCell(values, 4, season.get(DAY));
            setCell(values, 5, month);
            return Math.max(0, Math.min(NINE, worth()));
        }

        private int worth() {
            int first = holds * TAPE_ROOM;
            int size = Math.min(TAPE_ROOM, cell(sizes, holds));
            top = 0;
            for (int i = 0; i < size; i++) {
                int word = cell(code, first + i);
                int arg = word % WORD;
                switch (word / WORD) {
                    case NUMBER:
                        push(arg);
                        break;
                    case LETTER:
                        push(cell(values, arg));
                        break;
                    case SIGN:
                        int right = pop();
                        push(held(joined(arg == '!' ? 0 : pop(), arg, right)));
                        break;
                    case SKIP:
                        if (pop() == 0) {
                            i = Math.max(i, arg - 1);
                        }
                        break;
                    default:
                        return pop();
                }
            }
            return 0;
        }

        private void push(int v) {
            if (top >= 0 && top < stack.length) {
                stack[top] = v;
                top++;
            }
        }

        private int pop() {
            if (top < 1 || top > stack.length) {
                return 0;
            }
            top--;
            return stack[top];
        }

        private static long joined(int left, int sign, int right) {
            switch (sign) {
                case '+':
                    return (long) left + right;
                case '-':
                    return (long) left - right;
                case '*':
                    return (long) left * right;
                case '/':
                    return right == 0 ? 0 : left / right;
                case '=':
                    return left == right ? 1 : 0;
                case '<':
                    return left < right ? 1 : 0;
                case '>':
                    return left > right ? 1 : 0;
                case '&':
                    return left & right;
                case '|':
                    return left | right;
                default:
                    return right == 0 ? 1 : 0;
            }
        }

        private static int held(long v) {
            if (v > FARTHEST_NUMBER) {
                return FARTHEST_NUMBER;
            }
            return v < -FARTHEST_NUMBER ? -FARTHEST_NUMBER : (int) v;
        }
    }

    /** One way it all can be, the log too, in one row, so that it is kept and brought back as a whole. */
    private static final class Season {
        private static final int FORTH = 0;
        private static final int OTHER = 1;
        private final int[] row = new int[SEASON_ROOM];
        // How many days of each month came since the row was last taken over.
        private final int[] cameOf = new int[MOST_MONTHS];

        private int get(int i) {
            return cell(row, i);
        }

        private void put(int i, int v) {
            setCell(row, i, v);
        }

        private void add(int i, int by) {
            setCell(row, i, cell(row, i) + by);
        }

        private void clear() {
            for (int i = 0; i < SEASON_ROOM; i++) {
                put(i, 0);
            }
        }

        private void become(Season other) {
            for (int i = 0; i < SEASON_ROOM; i++) {
                put(i, other.get(i));
            }
            for (int i = 0; i < MOST_MONTHS; i++) {
                setCell(cameOf, i, 0);
            }
        }

        private boolean hasMonth(int month) {
            return month >= 0 && month < get(MONTHS);
        }

        private boolean hasCrop(int crop) {
            return crop >= 0 && crop < get(CROPS);
        }

        private static int placeOfMonth(int month, int what) {
            return FIRST_MONTH + month * MONTH_ROOM + what;
        }

        private static int placeOfCrop(int crop, int what) {
            return FIRST_CROP + crop * CROP_ROOM + what;
        }

        private int ofMonth(int month, int what) {
            return cell(row, placeOfMonth(month, what));
        }

        private int ofCrop(int crop, int what) {
            return cell(row, placeOfCrop(crop, what));
        }

        private void greaseMonth(int month, int more) {
            put(placeOfMonth(month, GREASE), Math.min(NINE, ofMonth(month, GREASE) + more));
        }

        private void chipMonth(int month) {
            add(placeOfMonth(month, SUN), -1);
            put(placeOfMonth(month, RAIN), Math.min(NINE, ofMonth(month, RAIN) + 1));
        }

        private void turnRound() {
            put(WAY, get(WAY) == FORTH ? OTHER : FORTH);
        }

        private void sowCrop(int crop) {
            put(placeOfCrop(crop, SUN_GOT), 0);
            put(placeOfCrop(crop, RAIN_GOT), 0);
            put(placeOfCrop(crop, RIPE), 0);
        }

        private void takeTurns(int n, Laws laws) {
            for (int t = 0; t < n; t++) {
                int pull = laws.pullFor(this);
                int ripe = 0;
                for (int d = 0; d < pull; d++) {
                    takeDay();
                    ripe |= growCrops(get(MONTH));
                }
                eatHay();
                add(TURN, 1);
                writeLog(pull, ripe);
            }
        }

        private void takeDay() {
            int months = get(MONTHS);
            int month = get(MONTH);
            int day = get(DAY) + (get(WAY) == FORTH ? 1 : -1);
            if (day < 0) {
                month = month > 0 ? month - 1 : months - 1;
                day = ofMonth(month, LENGTH) - 1;
            } else if (day >= ofMonth(month, LENGTH)) {
                month = month < months - 1 ? month + 1 : 0;
                day = 0;
            }
            put(MONTH, month);
            put(DAY, day);
            put(CAME, (get(CAME) + 1) % ALL_DAYS);
            setCell(cameOf, month, cell(cameOf, month) + 1);
        }

        private int growCrops(int month) {
            int moreSun = ofMonth(month, SUN);
            int moreRain = ofMonth(month, RAIN);
            int crops = get(CROPS);
            int ripe = 0;
            for (int crop = 0; crop < crops; crop++) {
                if (ofCrop(crop, RIPE) == 0) {
                    int sun = Math.min(MOST_GOT, ofCrop(crop, SUN_GOT) + moreSun);
                    int rain = Math.min(MOST_GOT, ofCrop(crop, RAIN_GOT) + moreRain);
                    put(placeOfCrop(crop, SUN_GOT), sun);
                    put(placeOfCrop(crop, RAIN_GOT), rain);
                    if (sun >= ofCrop(crop, SUN_NEED) && rain >= ofCrop(crop, RAIN_NEED)) {
                        put(placeOfCrop(crop, RIPE), 1);
                        put(PURSE, Math.min(MOST_PURSE, get(PURSE) + ofCrop(crop, VALUE)));
                        ripe |= 1 << crop;
                    }
                }
            }
            return ripe;
        }

        private void eatHay() {
            int left = get(FEED) - get(HAY);
            if (get(MULE) < 1) {
                return;
            }
            put(FEED, Math.max(0, left));
            if (left < 0) {
                add(MULE, -1);
            }
        }

        // A line of the log is one number: month, day, pull and ripe crops, five bits each.
        private void writeLog(int pull, int ripe) {
            int next = get(LOG_NEXT);
            put(FIRST_LOG + next, get(MONTH) << 15 | get(DAY) << 10 | pull << 5 | ripe);
            put(LOG_NEXT, (next + 1) % MOST_LOGGED);
            put(LOGGED, Math.min(MOST_LOGGED, get(LOGGED) + 1));
        }

        private int logged(int i, int what) {
            int line = get(FIRST_LOG + (get(LOG_NEXT) + MOST_LOGGED - 1 - i) % MOST_LOGGED);
            return line >> (3 - what) * 5 & 31;
        }

        private int came(int month) {
            return cell(cameOf, month);
        }

        private int daysOfYear() {
            int days = 0;
            for (int month = 0; month < get(MONTHS); month++) {
                days += ofMonth(month, LENGTH);
            }
            return days;
        }

        private int firstLevel(int one, int other) {
            int pole = ofMonth(one, POLE);
            int otherPole = ofMonth(other, POLE);
            if (pole < 1 || otherPole < 1) {
                return NONE;
            }
            for (int i = 0; i < 100; i++) {
                int day = get(CAME) + i;
                if (day % pole == 0 && day % otherPole == 0) {
                    return i;
                }
            }
            return NONE;
        }

        private int richest() {
            int found = NONE;
            int most = -1;
            for (int month = 0; month < get(MONTHS); month++) {
                int both = ofMonth(month, SUN) + ofMonth(month, RAIN);
                if (both > most) {
                    most = both;
                    found = month;
                }
            }
            return found;
        }

        private int driest() {
            int found = NONE;
            int least = NINE + 1;
            for (int month = 0; month < get(MONTHS); month++) {
                if (ofMonth(month, RAIN) < least) {
                    least = ofMonth(month, RAIN);
                    found = month;
                }
            }
            return found;
        }

        private int neediest() {
            int found = NONE;
            int most = -1;
            for (int crop = 0; crop < get(CROPS); crop++) {
                int sun = Math.max(0, ofCrop(crop, SUN_NEED) - ofCrop(crop, SUN_GOT));
                int rain = Math.max(0, ofCrop(crop, RAIN_NEED) - ofCrop(crop, RAIN_GOT));
                if (ofCrop(crop, RIPE) == 0 && sun + rain > most) {
                    most = sun + rain;
                    found = crop;
                }
            }
            return found;
        }

        private int ripeBits() {
            int bits = 0;
            for (int crop = 0; crop < get(CROPS); crop++) {
                bits |= ofCrop(crop, RIPE) << crop;
            }
            return bits;
        }

        private boolean allRipe() {
            return ripeBits() == (1 << get(CROPS)) - 1;
        }

        private int unripeValue() {
            int value = 0;
            for (int crop = 0; crop < get(CROPS); crop++) {
                value += ofCrop(crop, RIPE) == 0 ? ofCrop(crop, VALUE) : 0;
            }
            return value;
        }
    }

    /** How it was ahead of each of the latest acts. */
    private static final class Acts {
        private final int[] rows = new int[MOST_ACTS * SEASON_ROOM];
        private int many;
        private int next;

        private void forget() {
            many = 0;
        }

        private void keep(Season season) {
            for (int i = 0; i < SEASON_ROOM; i++) {
                setCell(rows, next * SEASON_ROOM + i, season.get(i));
            }
            next = (next + 1) % MOST_ACTS;
            many = Math.min(MOST_ACTS, many + 1);
        }

        private boolean takeBack(Season season) {
            if (many < 1) {
                return false;
            }
            next = (next + MOST_ACTS - 1) % MOST_ACTS;
            many--;
            for (int i = 0; i < SEASON_ROOM; i++) {
                season.put(i, cell(rows, next * SEASON_ROOM + i));
            }
            return true;
        }
    }

    /** What would come, tried apart on a season of its own. */
    private static final class Forecast {
        private static final int GIFTS = 10;
        private final Season now;
        private final Laws laws;
        private final Season trial = new Season();
        // Of each number of FEED that both give together, how many days come of the one and of the other.
        private final int[] daysOfOne = new int[2 * GIFTS - 1];
        private final int[] daysOfOther = new int[2 * GIFTS - 1];
        private final long[] parts = new long[31];
        private int oilRow;
        private int oilValue;

        private Forecast(Season now, Laws laws) {
            this.now = now;
            this.laws = laws;
        }

        private int placeBehind(int n, boolean other, int place) {
            trial.become(now);
            if (other) {
                trial.turnRound();
            }
            trial.takeTurns(n, laws);
            return trial.get(place);
        }

        private int turnsTo(int month) {
            trial.become(now);
            return turnsUntil(month, 0);
        }

        /** Behind how many turns, none fewer than first, the trial is in the month; it is left there. */
        private int turnsUntil(int month, int first) {
            trial.takeTurns(first, laws);
            for (int t = first; t <= FARTHEST; t++) {
                if (trial.get(MONTH) == month) {
                    return t;
                }
                trial.takeTurns(1, laws);
            }
            return NONE;
        }

        private int rideTurns(int from, int to) {
            trial.become(now);
            return turnsUntil(from, 0) == NONE ? NONE : turnsUntil(to, 1);
        }

        private int turnsToRipe(int crop) {
            trial.become(now);
            for (int t = 0; t <= FARTHEST; t++) {
                if (trial.ofCrop(crop, RIPE) == 1) {
                    return t;
                }
                trial.takeTurns(1, laws);
            }
            return NONE;
        }

        private int turnsToDeath() {
            trial.become(now);
            for (int t = 0; t <= FARTHEST; t++) {
                if (trial.get(MULE) < 1) {
                    return t;
                }
                trial.takeTurns(1, laws);
            }
            return NONE;
        }

        private void runWith(int more, int n) {
            trial.become(now);
            trial.add(FEED, more);
            trial.takeTurns(n, laws);
        }

        private int leastFeed(int n) {
            for (int more = 0; more <= MOST_FEED; more++) {
                runWith(more, n);
                if (trial.allRipe()) {
                    return more;
                }
            }
            return NONE;
        }

        private void seekOil(int k, int n) {
            int months = now.get(MONTHS);
            oilRow = NONE;
            oilValue = NONE;
            for (int a = 0; a < (k > 2 ? months : 1); a++) {
                for (int b = a; b < (k > 1 ? months : 1); b++) {
                    for (int c = b; c < months; c++) {
                        tryOil(k, n, a * 100 + b * 10 + c);
                    }
                }
            }
        }

        private void tryOil(int k, int n, int row) {
            trial.become(now);
            int digits = row;
            for (int i = 0; i < k; i++) {
                trial.greaseMonth(digits % 10, 1);
                digits /= 10;
            }
            trial.takeTurns(n, laws);
            int value = now.unripeValue() - trial.unripeValue();
            if (value > oilValue) {
                oilValue = value;
                oilRow = row;
            }
        }

        private int daysWith(int more, int n, int month) {
            runWith(more, n);
            return trial.came(month);
        }

        private int restAt(int one, int other, int n, int i) {
            for (int more = 0; more < 2 * GIFTS - 1; more++) {
                runWith(more, n);
                setCell(daysOfOne, more, trial.came(one));
                setCell(daysOfOther, more, trial.came(other));
            }
            int found = 0;
            for (int both = 0; both < GIFTS * GIFTS; both++) {
                if (isRest(both / GIFTS, both % GIFTS)) {
                    if (found == i) {
                        return both;
                    }
                    found++;
                }
            }
            return i == NONE ? found : NONE;
        }

        private boolean isRest(int x, int y) {
            int one = gain(daysOfOne, x, y);
            int other = gain(daysOfOther, y, x);
            for (int z = 0; z < GIFTS; z++) {
                if (gain(daysOfOne, z, y) > one || gain(daysOfOther, z, x) > other) {
                    return false;
                }
            }
            return true;
        }

        private static int gain(int[] days, int own, int others) {
            return 2 * cell(days, own + others) - own;
        }

        private int shareOf(int month, int n, int c) {
            runWith(0, n);
            int all = 0;
            for (int k = 0; k < now.get(MONTHS); k++) {
                all += trial.came(k);
            }
            return all == 0 ? 0 : c * trial.came(month) / all;
        }

        private int neverBits(int n) {
            runWith(0, n);
            int bits = 0;
            for (int month = 0; month < now.get(MONTHS); month++) {
                bits |= trial.came(month) == 0 ? 1 << month : 0;
            }
            return bits;
        }

        private long partAt(int mule) {
            return mule < 0 || mule >= parts.length ? 0L : parts[mule];
        }

        private void setPart(int mule, long part) {
            if (mule >= 0 && mule < parts.length) {
                parts[mule] = part;
            }
        }

        private long deadParts(int n, int chance) {
            for (int mule = 0; mule < parts.length; mule++) {
                setPart(mule, 0L);
            }
            setPart(now.get(MULE), ALL_PARTS);
            for (int t = 0; t < n; t++) {
                // Rising, so that what comes down in this turn does not come down twice.
                for (int mule = 1; mule < parts.length; mule++) {
                    long lost = partAt(mule) * chance / 100;
                    setPart(mule, partAt(mule) - lost);
                    setPart(mule - 1, partAt(mule - 1) + lost);
                }
            }
            return partAt(0);
        }
    }

    /** What was seen of the plain as told, and whose grease it tells of. */
    private static final class Witness {
        private static final int NOBODY = MOST_MONTHS;
        private static final int SUSPECTS = MOST_MONTHS + 1;
        private static final int NOBODY_TOLD = 9;
        private final Season told;
        private final Laws laws;
        private final Season trial = new Season();
        private final int[] when = new int[MOST_SEEN];
        private final int[] where = new int[MOST_SEEN];
        private final int[] isSo = new int[MOST_SEEN];
        // Of each suspect the month behind 0 .. 40 turns, and whether all that was seen fits.
        private final int[] paths = new int[SUSPECTS * (FEW_TURNS + 1)];
        private final int[] fits = new int[SUSPECTS];
        private final int[] tellers = new int[MOST_MONTHS];
        private int many;

        private Witness(Season told, Laws laws) {
            this.told = told;
            this.laws = laws;
        }

        private void forget() {
            many = 0;
        }

        private int addSeen(int n, int month, boolean is) {
            setCell(when, many, n);
            setCell(where, many, month);
            setCell(isSo, many, is ? 1 : 0);
            many++;
            return many;
        }

        private int pathAt(int suspect, int n) {
            return cell(paths, suspect * (FEW_TURNS + 1) + n);
        }

        private void walk(int suspect, int g) {
            trial.become(told);
            if (suspect != NOBODY) {
                trial.greaseMonth(suspect, g);
            }
            for (int n = 1; n <= FEW_TURNS; n++) {
                trial.takeTurns(1, laws);
                setCell(paths, suspect * (FEW_TURNS + 1) + n, trial.get(MONTH));
            }
        }

        private boolean fitsAll(int suspect) {
            for (int i = 0; i < many; i++) {
                boolean wasThere = pathAt(suspect, cell(when, i)) == cell(where, i);
                if (wasThere != (cell(isSo, i) == 1)) {
                    return false;
                }
            }
            return true;
        }

        private void tryAll(int g) {
            for (int suspect = 0; suspect < SUSPECTS; suspect++) {
                boolean fitting = false;
                if (suspect == NOBODY || told.hasMonth(suspect)) {
                    walk(suspect, g);
                    fitting = fitsAll(suspect);
                }
                setCell(fits, suspect, fitting ? 1 : 0);
            }
        }

        private int suspectAt(int i) {
            int found = 0;
            for (int suspect = 0; suspect < SUSPECTS; suspect++) {
                if (cell(fits, suspect) == 1) {
                    if (found == i) {
                        return suspect == NOBODY ? NOBODY_TOLD : suspect;
                    }
                    found++;
                }
            }
            return i == NONE ? found : NONE;
        }

        private int whenToLook() {
            int found = NONE;
            int fewest = SUSPECTS + 1;
            for (int n = 1; n <= FEW_TURNS; n++) {
                int most = mostAlike(n);
                if (most > 0 && most < fewest) {
                    fewest = most;
                    found = n;
                }
            }
            return found;
        }

        /** How many of the fitting ones tell the month that most of them tell. */
        private int mostAlike(int n) {
            int most = 0;
            for (int month = 0; month < MOST_MONTHS; month++) {
                setCell(tellers, month, 0);
            }
            for (int suspect = 0; suspect < SUSPECTS; suspect++) {
                if (cell(fits, suspect) == 1) {
                    int month = pathAt(suspect, n);
                    setCell(tellers, month, cell(tellers, month) + 1);
                    most = Math.max(most, cell(tellers, month));
                }
            }
            return most;
        }
    }

    /** The draws of decades, always the same by the same seed. */
    private static final class Draws {
        private long x;

        private void begin(long seed) {
            x = seed;
        }

        private int below(int j) {
            x = x * 6364136223846793005L + 1442695040888963407L;
            return j < 1 ? 0 : (int) ((x >>> 33) % j);
        }
    }
}
