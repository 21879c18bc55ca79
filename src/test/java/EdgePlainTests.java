/** The edges of the TAPE and of a PLAIN as a TEXT: the terms, and promises 2 to 5. */
public final class EdgePlainTests {
    private static final String AHEAD = "sm7f8h1p6;ml4;m;c";

    private interface Told {
        int of(MuleSeasons x);
    }

    public static void main(String[] args) {
        Check.test("term PLAIN: s, one at most", EdgePlainTests::rules);
        Check.test("term PLAIN: m, 2 .. 8", EdgePlainTests::months);
        Check.test("term PLAIN: c, 1 .. 5", EdgePlainTests::crops);
        Check.test("term PLAIN: in any order", EdgePlainTests::anyOrder);
        Check.test("term PLAIN: five CROPS ahead of eight MONTHS", EdgePlainTests::cropsAhead);
        Check.test("term PLAIN: all fourteen CLAUSES", EdgePlainTests::fourteen);
        Check.test("term PLAIN: CLAUSES with ; between", EdgePlainTests::between);
        Check.test("term PLAIN: ITEMS, none or more", EdgePlainTests::items);
        Check.test("term PLAIN: a letter once at most in a CLAUSE", EdgePlainTests::once);
        Check.test("term PLAIN: one or two digits", EdgePlainTests::digits);
        Check.test("term PLAIN: m the MULE (1 .. 30; 12 without)", EdgePlainTests::itemMule);
        Check.test("term PLAIN: f FEED (0 .. 99; 30)", EdgePlainTests::itemFeed);
        Check.test("term PLAIN: h HAY (0 .. 9; 2)", EdgePlainTests::itemHay);
        Check.test("term PLAIN: p PURSE (0 .. 99; 10)", EdgePlainTests::itemPurse);
        Check.test("term PLAIN: l LENGTH (1 .. 9; 3)", EdgePlainTests::itemLength);
        Check.test("term PLAIN: g GREASE (0 .. 9; 0)", EdgePlainTests::itemGrease);
        Check.test("term PLAIN: s SUN (0 .. 9; 3)", EdgePlainTests::itemSun);
        Check.test("term PLAIN: r RAIN (0 .. 9; 3)", EdgePlainTests::itemRain);
        Check.test("term PLAIN: p the time of its POLE (1 .. 9; 4)", EdgePlainTests::itemPole);
        Check.test("term PLAIN: s SUN that it NEEDS (0 .. 99; 10)", EdgePlainTests::itemNeedsSun);
        Check.test("term PLAIN: r RAIN that it NEEDS (0 .. 99; 10)", EdgePlainTests::itemNeedsRain);
        Check.test("term PLAIN: v VALUE (0 .. 99; 10)", EdgePlainTests::itemValue);
        Check.test("term FAULT: the length, if it ends too early", EdgePlainTests::tooEarly);
        Check.test("term FAULT: a number out of bounds at its last digit", EdgePlainTests::lastDigit);
        Check.test("term FAULT: a third digit itself, whatever stands ahead of it", EdgePlainTests::thirdDigit);
        Check.test("term FAULT: a letter that was there, at it", EdgePlainTests::letterThere);
        Check.test("term FAULT: each other byte, at it", EdgePlainTests::otherBytes);
        Check.test("term FAULT: the first byte of several", EdgePlainTests::firstOfSeveral);
        Check.test("term FAULT: Blanks between all signs, not within numbers", EdgePlainTests::blanks);
        Check.test("2 feed: bytes of 0 are left out", EdgePlainTests::zeroes);
        Check.test("2 feed: of each number the highest first", EdgePlainTests::highestFirst);
        Check.test("2 feed: more than 240", EdgePlainTests::fullTape);
        Check.test("3 end: its first n bytes alone", EdgePlainTests::ends);
        Check.test("4 fault: an empty TAPE", EdgePlainTests::emptyTape);
        Check.test("4 fault: no such sort", EdgePlainTests::noSort);
        Check.test("5 text: NONE by a FAULT", EdgePlainTests::textFault);
        Check.test("5 text: NONE by no such sort", EdgePlainTests::textNoSort);
        Check.test("5 text: the TAPE is empty then", EdgePlainTests::textEmpties);
        Check.test("5 text: TURN 0, no DAY came, all of another one is gone", EdgePlainTests::textGone);
        Check.test("5 text: LAWS, which holds, HAIL, THIEVES, STATUS stay", EdgePlainTests::textStays);
        Check.end();
    }

    /** No such TEXT: the fault is there, and the plain ahead of it and the tape stay. */
    private static void fault(String text, int at) {
        Check.due("fault(0) of " + text, Check.faultOf(0, text), at);
        Twin.unchanged("text(0) of " + text, () -> typed(text), x -> x.text(0), -1);
    }

    private static MuleSeasons typed(String text) {
        MuleSeasons x = Check.plain(AHEAD);
        Check.type(x, text);
        return x;
    }

    /** Such a TEXT: it becomes the plain. */
    private static MuleSeasons taken(String text, int months) {
        Check.due("fault(0) of " + text, Check.faultOf(0, text), -1);
        MuleSeasons x = typed(text);
        Check.due("text(0) of " + text, x.text(0), months);
        Check.due("MONTHS of " + text, x.count(0), months);
        return x;
    }

    private static String times(String text, int many) {
        return text.repeat(many);
    }

    private static void rules() {
        Check.due("none", taken("m;m;c", 2).rule(0), 12);
        Check.due("one", taken("sm9;m;m;c", 2).rule(0), 9);
        fault("s;s;m;m;c", 2);
        fault("m;m;c;sm4;sm4", 10);
        fault("m;m;c;s;m;s", 10);
    }

    private static void months() {
        fault("c", 1);
        fault("m;c", 3);
        taken("m;m;c", 2);
        taken("m;m;m;m;m;m;m;c", 7);
        taken("c;m;m;m;m;m;m;m;m", 8);
        fault("c;m;m;m;m;m;m;m;m;m", 18);
        fault("m;m;m;m;m;m;m;m;m;c", 16);
        fault("m;m;m;m;m;m;m;m;c;m", 18);
    }

    private static void crops() {
        fault("m;m", 3);
        Check.due("one", taken("m;m;c", 2).count(1), 1);
        Check.due("four", taken("m;m;c;c;c;c", 2).count(1), 4);
        Check.due("five", taken("c;c;c;c;c;m;m", 2).count(1), 5);
        fault("m;m;c;c;c;c;c;c", 14);
        fault("c;c;c;c;c;m;m;c", 14);
    }

    private static void anyOrder() {
        String[] texts = {"sm5;ml2;ml7;cv4", "cv4;ml2;ml7;sm5", "ml2;cv4;sm5;ml7", "ml2;sm5;ml7;cv4", "cv4;sm5;ml2;ml7"};
        for (String text : texts) {
            MuleSeasons x = taken(text, 2);
            Check.due("MULE of " + text, x.rule(0), 5);
            Check.due("MONTH 0 of " + text, x.month(0, 0), 2);
            Check.due("MONTH 1 of " + text, x.month(1, 0), 7);
            Check.due("CROP 0 of " + text, x.crop(0, 2), 4);
        }
    }

    private static void cropsAhead() {
        MuleSeasons x = taken("cs1r2v3;sm7;cs4r5v6;cs7;c;cv8;m;m;m;m;m;m;m;ml8g7s6r5p4", 8);
        int[][] due = {{1, 2, 3}, {4, 5, 6}, {7, 10, 10}, {10, 10, 10}, {10, 10, 8}};
        for (int crop = 0; crop < 5; crop++) {
            for (int what = 0; what < 6; what++) {
                Check.due("crop(" + crop + ", " + what + ")", x.crop(crop, what), what < 3 ? due[crop][what] : 0);
            }
        }
        for (int what = 0; what < 5; what++) {
            Check.due("month(7, " + what + ")", x.month(7, what), 8 - what);
        }
        Check.due("MULE", x.rule(0), 7);
        Check.due("FEED", x.rule(1), 30);
        Check.due("RIPE", x.count(9), 0);
        Check.due("RIPE by an odd POLE", taken("c;m;m;m;m;m;m;m;mp9", 8).count(9), 0);
    }

    private static void fourteen() {
        String full = "sm30f99h9p99" + times(";ml9g9s9r9p9", 8) + times(";cs99r99v99", 5);
        MuleSeasons x = taken(full, 8);
        Check.due("CROPS", x.count(1), 5);
        Check.due("the last MONTH", x.month(7, 4), 9);
        Check.due("the last CROP", x.crop(4, 2), 99);
        fault(full + ";s", full.length() + 1);
        fault(full + ";m", full.length() + 1);
        fault(full + ";c", full.length() + 1);
        fault(full + ";", full.length() + 1);
        taken(full + times(" ", 240 - full.length()), 8);
        taken(times(" ", 235) + "m;m;c", 2);
    }

    private static void between() {
        fault(";m;m;c", 0);
        fault("m;;m;c", 2);
        fault("m;m;c;", 6);
        fault("mm;c", 1);
        fault("m,m;c", 1);
        fault("m;m c", 4);
        fault("m;m:c", 3);
    }

    private static void items() {
        MuleSeasons x = taken("s;m;ml1;c;cs1r2v3", 2);
        Check.due("none of s", x.rule(3), 10);
        Check.due("none of m", x.month(0, 0), 3);
        Check.due("one of m", x.month(1, 0), 1);
        Check.due("none of c", x.crop(0, 0), 10);
        Check.due("all of c", x.crop(1, 1), 2);
        MuleSeasons y = taken("sp4h3f2m1;mp9r8s7g6l5;m;cv3r2s1", 2);
        for (int i = 0; i < 4; i++) {
            Check.due("all of s the other way round", y.rule(i), i + 1);
        }
        for (int i = 0; i < 5; i++) {
            Check.due("all of m the other way round", y.month(0, i), i + 5);
        }
        for (int i = 0; i < 3; i++) {
            Check.due("all of c the other way round", y.crop(0, i), i + 1);
        }
    }

    private static void once() {
        String[] kinds = {"s", "m", "c"};
        String[] letters = {"mfhp", "lgsrp", "srv"};
        for (int kind = 0; kind < 3; kind++) {
            for (int i = 0; i < letters[kind].length(); i++) {
                char c = letters[kind].charAt(i);
                fault(kinds[kind] + c + "1" + c, 3);
                fault(kinds[kind] + c + "1 " + c + "1;m;m;c", 4);
            }
        }
        taken("sp1m2;ml1p2;ml1p2;cs1r2;cs1r2", 2);
        fault("m;m;cs1r1v1s1", 11);
        fault("m;m;cs1r1v1v1", 11);
        fault("ml1g1s1r1p1g1", 11);
        fault("sm1f1h1p1f1", 9);
    }

    private static void digits() {
        fault("ms", 2);
        fault("ms;m;c", 2);
        fault("msr1;m;c", 2);
        taken("ms1;m;c", 2);
        Check.due("two digits", taken("ms01;m;c", 2).month(0, 2), 1);
        fault("ms001;m;c", 4);
        Check.due("00", taken("m;m;cv00", 2).crop(0, 2), 0);
        Check.due("09", taken("m;m;cv09", 2).crop(0, 2), 9);
        fault("m;m;cv009", 8);
        fault("ms-1;m;c", 2);
        fault("ms+1;m;c", 2);
    }

    /** The item at the end of a clause that begins the text; what is told of it by its bounds. */
    private static void item(String head, int low, int high, int without, Told told) {
        String tail = head.startsWith("s") ? ";m;m;c" : head.startsWith("m") ? ";m;c" : ";m;m";
        Check.due(head + low, told.of(taken(head + low + tail, 2)), low);
        Check.due(head + high, told.of(taken(head + high + tail, 2)), high);
        Check.due("without", told.of(taken(head.substring(0, 1) + tail, 2)), without);
        for (int n = low + 1; n < high; n++) {
            Check.due(head + n, told.of(Check.plain(head + n + tail)), n);
        }
        if (low > 0) {
            fault(head + (low - 1) + tail, head.length());
            fault(head + "0" + (low - 1) + tail, head.length() + 1);
        }
        if (high < 99) {
            int over = high + 1;
            fault(head + over + tail, head.length() + 1);
            fault(head + "99" + tail, head.length() + 1);
        }
        fault(head + "100" + tail, head.length() + 2);
        fault(head + tail, head.length());
    }

    private static void itemMule() {
        item("sm", 1, 30, 12, x -> x.rule(0));
    }

    private static void itemFeed() {
        item("sf", 0, 99, 30, x -> x.rule(1));
    }

    private static void itemHay() {
        item("sh", 0, 9, 2, x -> x.rule(2));
    }

    private static void itemPurse() {
        item("sp", 0, 99, 10, x -> x.rule(3));
    }

    private static void itemLength() {
        item("ml", 1, 9, 3, x -> x.month(0, 0));
    }

    private static void itemGrease() {
        item("mg", 0, 9, 0, x -> x.month(0, 1));
    }

    private static void itemSun() {
        item("ms", 0, 9, 3, x -> x.month(0, 2));
    }

    private static void itemRain() {
        item("mr", 0, 9, 3, x -> x.month(0, 3));
    }

    private static void itemPole() {
        item("mp", 1, 9, 4, x -> x.month(0, 4));
    }

    private static void itemNeedsSun() {
        item("cs", 0, 99, 10, x -> x.crop(0, 0));
    }

    private static void itemNeedsRain() {
        item("cr", 0, 99, 10, x -> x.crop(0, 1));
    }

    private static void itemValue() {
        item("cv", 0, 99, 10, x -> x.crop(0, 2));
    }

    private static void tooEarly() {
        fault("", 0);
        fault("s", 1);
        fault("sm", 2);
        fault("sm1", 3);
        fault("sm1;", 4);
        fault("m", 1);
        fault("m;", 2);
        fault("m;m", 3);
        fault("m;m;", 4);
        fault("m;c", 3);
        fault("m;c;c;c;c;c;s", 13);
        fault("m;m;m;m;m;m;m;m;s", 17);
        fault("m;m;cs", 6);
        fault("m;m;cs1r", 8);
        fault("m;m;c;", 6);
        fault("m;m;c ; ", 8);
        fault("   ", 3);
    }

    private static void lastDigit() {
        fault("sm0", 2);
        fault("sm00", 3);
        fault("sm31", 3);
        fault("sm99", 3);
        fault("sh10", 3);
        fault("ml0", 2);
        fault("ml00;m;c", 3);
        fault("ml10;m;c", 3);
        fault("mp0g1", 2);
        fault("m;m;c;sm40", 9);
    }

    private static void thirdDigit() {
        fault("sm301", 4);
        fault("sm311", 4);
        fault("sm000", 4);
        fault("sm001", 4);
        fault("sf999", 4);
        fault("sf1000", 4);
        fault("ml001", 4);
        fault("ml991", 4);
        fault("m;m;cv000", 8);
        fault("m;m;cs12345", 8);
    }

    private static void letterThere() {
        fault("sm1m", 3);
        fault("sm1m1", 3);
        fault("sm99m", 3);
        fault("sm1f1m1;m;m;c", 5);
        fault("ml1 l1;m;c", 4);
        fault("ml1;ml1l1;c", 7);
        fault("m;m;cv1s1v2", 9);
    }

    private static boolean isIn(String signs, int sign) {
        return signs.indexOf((char) sign) >= 0;
    }

    private static void otherBytes() {
        for (int sign = 1; sign < 256; sign++) {
            String one = String.valueOf((char) sign);
            Check.due("first " + sign, Check.faultOf(0, one), isIn("smc ", sign) ? 1 : 0);
            Check.due("behind s " + sign, Check.faultOf(0, "s" + one), isIn("mfhp; ", sign) ? 2 : 1);
            Check.due("behind m " + sign, Check.faultOf(0, "m" + one), isIn("lgsrp; ", sign) ? 2 : 1);
            Check.due("behind c " + sign, Check.faultOf(0, "c" + one), isIn("srv; ", sign) ? 2 : 1);
            boolean digit = isIn("0123456789 ", sign);
            Check.due("behind cs " + sign, Check.faultOf(0, "cs" + one), digit ? 3 : 2);
            boolean more = isIn("0123456789rv; ", sign);
            Check.due("behind cs1 " + sign, Check.faultOf(0, "cs1" + one), more ? 4 : 3);
            Check.due("behind cs12 " + sign, Check.faultOf(0, "cs12" + one), isIn("rv; ", sign) ? 5 : 4);
            Check.due("behind ; " + sign, Check.faultOf(0, "m;" + one), isIn("smc ", sign) ? 3 : 2);
        }
    }

    private static void firstOfSeveral() {
        fault("sm0;s;x", 2);
        fault("m;x;sm99", 2);
        fault("ml1l0", 3);
        fault("m;m;m;m;m;m;m;m;ml0", 16);
        fault("s;sm0", 2);
        fault("m;c;", 4);
    }

    private static void blanks() {
        MuleSeasons x = taken("  s  m  3  f 4 ;  m l 2 ; m ;  c  s 12  v 3  ", 2);
        Check.due("MULE", x.rule(0), 3);
        Check.due("FEED", x.rule(1), 4);
        Check.due("SUN", x.crop(0, 0), 12);
        Check.due("VALUE", x.crop(0, 2), 3);
        fault("sm1 2;m;m;c", 4);
        fault("sm12 3;m;m;c", 5);
        fault("sm 31;m;m;c", 4);
        fault("m;m;cs 1 ;", 10);
        fault("m;m;c\t", 5);
        fault("m;m;c\n", 5);
        fault("m ; c ", 6);
    }

    private static void zeroes() {
        MuleSeasons x = new MuleSeasons();
        Check.due("nothing", x.feed(0, 0, 0, 0, 0), 0);
        Check.due("the lowest alone", x.feed('m', 0, 0, 0, 0), 1);
        Check.due("the highest alone", x.feed(0, ';' << 24, 0, 0, 0), 2);
        Check.due("those in the midst", x.feed(0, 0, 'm' << 16 | ';' << 8, 0, 0), 4);
        Check.due("the last number", x.feed(0, 0, 0, 0, 'c' << 8), 5);
        Check.due("it is m;m;c", x.text(0), 2);
        Check.due("255 in all", x.feed(-1, -1, -1, -1, -1), 20);
        Check.due("least number", x.feed(Integer.MIN_VALUE, 0, 0, 0, 0), 21);
    }

    private static void highestFirst() {
        MuleSeasons x = new MuleSeasons();
        x.feed('s' << 24 | 'm' << 16 | '2' << 8 | '1', ';' << 24 | 'm', 'l' << 8 | '8', ';' << 16 | 'm', ';' << 8 | 'c');
        Check.due("sm21;ml8;m;c", x.text(0), 2);
        Check.due("MULE", x.rule(0), 21);
        Check.due("LENGTH", x.month(0, 0), 8);
    }

    private static MuleSeasons filled(int many) {
        MuleSeasons x = Check.plain(AHEAD);
        Check.type(x, times(" ", many));
        Check.due("bytes", x.count(3), many);
        return x;
    }

    private static void fullTape() {
        Check.due("239 and one", filled(239).feed(0, 0, 0, 0, 32), 240);
        Check.due("220 and twenty", filled(220).feed(-1, -1, -1, -1, -1), 240);
        Check.due("240 and none", filled(240).feed(0, 0, 0, 0, 0), 240);
        Twin.unchanged("239 and two", () -> filled(239), x -> x.feed('m' << 24, 0, 0, 0, 'm'), -1);
        Twin.unchanged("221 and twenty", () -> filled(221), x -> x.feed(-1, -1, -1, -1, -1), -1);
        Twin.unchanged("240 and one", () -> filled(240), x -> x.feed(0, 0, 1, 0, 0), -1);
        MuleSeasons x = filled(234);
        Check.due("seven are refused as a whole", x.feed(-1, -1 >>> 8, 0, 0, 0), -1);
        Check.due("six are not", x.feed('m' << 24 | ';' << 16 | 'm' << 8 | ';', 'c', ' ', 0, 0), 240);
        Check.due("none of the seven is there", x.text(0), 2);
        Check.due("then there is room", x.feed(-1, -1, -1, -1, -1), 20);
    }

    private static void ends() {
        Twin.unchanged("below", () -> typed("m;m;c;x"), x -> x.end(-1) ? 1 : 0, 0);
        Twin.unchanged("least", () -> typed("m;m;c;x"), x -> x.end(Integer.MIN_VALUE) ? 1 : 0, 0);
        Twin.unchanged("one more", () -> typed("m;m;c;x"), x -> x.end(8) ? 1 : 0, 0);
        Twin.unchanged("greatest", () -> typed("m;m;c;x"), x -> x.end(Integer.MAX_VALUE) ? 1 : 0, 0);
        Twin.unchanged("all", () -> typed("m;m;c;x"), x -> x.end(7) ? 1 : 0, 1);
        Twin.unchanged("none of none", () -> typed(""), x -> x.end(0) ? 1 : 0, 1);
        Twin.unchanged("one of none", () -> typed(""), x -> x.end(1) ? 1 : 0, 0);
        MuleSeasons x = typed("m;m;c;x");
        Check.due("six", x.end(6), true);
        Check.due("six bytes", x.count(3), 6);
        Check.due("seven are no more", x.end(7), false);
        Check.due("none", x.end(0), true);
        Check.due("empty", x.count(3), 0);
        Check.due("its fault", x.fault(0), 0);
        MuleSeasons y = filled(240);
        Check.due("240", y.end(240), true);
        Check.due("241", y.end(241), false);
        Check.due("239", y.end(239), true);
        Check.due("room for one", y.feed(1, 0, 0, 0, 0), 240);
    }

    private static void emptyTape() {
        MuleSeasons x = new MuleSeasons();
        Check.due("a PLAIN", x.fault(0), 0);
        Check.due("a LAW", x.fault(1), 0);
        Twin.unchanged("no PLAIN of it", () -> typed(""), y -> y.text(0), -1);
        Twin.unchanged("no LAW of it", () -> typed(""), y -> y.text(1), -1);
    }

    private static void noSort() {
        int[] sorts = {-1, 2, 3, Integer.MIN_VALUE, Integer.MAX_VALUE};
        for (int sort : sorts) {
            Twin.unchanged("fault(" + sort + ")", () -> typed("m;m;c"), x -> x.fault(sort), -2);
            Check.due("of nothing", new MuleSeasons().fault(sort), -2);
        }
        Twin.unchanged("fault(0), none", () -> typed("m;m;c"), x -> x.fault(0), -1);
        Twin.unchanged("fault(1), one", () -> typed("m;m;c"), x -> x.fault(1), 0);
        Twin.unchanged("fault(1), none", () -> typed("y:m"), x -> x.fault(1), -1);
    }

    private static void textFault() {
        Twin.unchanged("a PLAIN", () -> typed("m;m;m;c;"), x -> x.text(0), -1);
        Twin.unchanged("a LAW for a PLAIN", () -> typed("y:1"), x -> x.text(0), -1);
        Twin.unchanged("a PLAIN for a LAW", () -> typed("m;m;c"), x -> x.text(1), -1);
        MuleSeasons x = new MuleSeasons();
        Check.type(x, "m;m");
        Check.due("the first PLAIN", x.text(0), -1);
        Check.due("none yet", x.count(0), 0);
        Check.due("no rule yet", x.rule(0), -1);
        Check.type(x, ";c");
        Check.due("what was missing", x.text(0), 2);
    }

    private static void textNoSort() {
        int[] sorts = {-1, 2, Integer.MIN_VALUE, Integer.MAX_VALUE};
        for (int sort : sorts) {
            Twin.unchanged("text(" + sort + ") of a PLAIN", () -> typed("m;m;c"), x -> x.text(sort), -1);
            Twin.unchanged("text(" + sort + ") of a LAW", () -> typed("y:1"), x -> x.text(sort), -1);
        }
    }

    private static void textEmpties() {
        MuleSeasons x = typed("m;m;m;c");
        Check.due("a PLAIN", x.text(0), 3);
        Check.due("empty", x.count(3), 0);
        Check.due("no PLAIN again", x.text(0), -1);
        Check.due("the PLAIN stays", x.count(0), 3);
        Check.type(x, "y:1");
        Check.due("a LAW", x.text(1), 0);
        Check.due("empty", x.count(3), 0);
        Check.due("no LAW again", x.text(1), -1);
        Check.due("one LAW", x.count(2), 1);
    }

    private static MuleSeasons used() {
        MuleSeasons x = Check.plainWithLaw("sm20f9h1p60;ml2g1s5r5;ml2;ml9;cs1r1;cs9r9;c", "y:3");
        x.turn(5);
        x.reverse();
        x.hay(3);
        x.grease(1);
        x.chip(1);
        x.sow(0);
        x.image();
        x.seen(1, 1, true);
        x.seen(2, 1, false);
        x.turn(2);
        x.turn(0);
        x.chip(9);
        x.set(0, 8);
        x.set(1, 7);
        return x;
    }

    private static void textGone() {
        MuleSeasons x = used();
        Check.type(x, "m;m;c");
        Check.due("another one", x.text(0), 2);
        MuleSeasons y = new MuleSeasons();
        Check.type(y, "y:3");
        y.text(1);
        y.law(0);
        y.set(0, 8);
        y.set(1, 7);
        Check.type(y, "m;m;c");
        y.text(0);
        Check.due("as new", Twin.all(x).equals(Twin.all(y)), true);
        MuleSeasons z = used();
        Check.type(z, "m;m;c");
        z.text(0);
        int[] gone = {5, 6, 7, 8, 9, 10, 13, 14, 15};
        for (int what : gone) {
            Check.due("count(" + what + ")", z.count(what), 0);
        }
        Check.due("no ACT", z.undo(), -1);
        Check.due("no IMAGE", z.back(), -1);
        Check.due("no LOG", z.log(0, 0), -1);
        Check.due("all that was SEEN", z.who(1, -1), 3);
        Check.due("its MONTH 2", z.month(2, 0), -1);
        Check.noSuch("its CROP 1", () -> z.crop(1, 0));
        Check.due("the MULE without", z.rule(0), 12);
    }

    private static void textStays() {
        MuleSeasons x = used();
        Check.type(x, "m;m;c");
        x.text(0);
        Check.due("LAWS", x.count(2), 1);
        Check.due("which holds", x.count(4), 0);
        Check.due("PULL by it", x.pull(), 3);
        Check.due("HAIL", x.count(11), 8);
        Check.due("THIEVES", x.count(12), 7);
        Check.due("STATUS 0", x.status(0), 1);
        Check.due("STATUS 1", x.status(1), 1);
        MuleSeasons y = Check.plainWithLaw("m;m;c", "y:3");
        y.law(-1);
        Check.type(y, "m;m;c");
        y.text(0);
        Check.due("none holds still", y.count(4), -1);
        Check.due("there is one still", y.count(2), 1);
    }
}
