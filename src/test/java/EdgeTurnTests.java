/** The edges of DAYS and TURNS: what stands at ==== 2 as its first paragraphs, and promises 6 to 8, 11 and 22. */
public final class EdgeTurnTests {
    private static final String PLAIN = "sh0;ml2;ml1;ml3;c";

    public static void main(String[] args) {
        Check.test("term DAY: the first DAY, 0, of MONTH 0 at first", EdgeTurnTests::first);
        Check.test("term DAY: behind the last DAY of a MONTH the first one of the next", EdgeTurnTests::nextMonth);
        Check.test("term DAY: behind the last MONTH the first one", EdgeTurnTests::nextYear);
        Check.test("term DAY: the other way, ahead of DAY 0 the last DAY of the MONTH ahead", EdgeTurnTests::otherWay);
        Check.test("term DAY: turned where it stands", EdgeTurnTests::turnedThere);
        Check.test("term TURN: 0 at first", EdgeTurnTests::turnZero);
        Check.test("term TURN: PULL by how it is as it begins", EdgeTurnTests::asItBegins);
        Check.test("term TURN: as many DAYS go by, none by 0, nine at most", EdgeTurnTests::daysGoBy);
        Check.test("term TURN: SUN and RAIN of the DAY that comes", EdgeTurnTests::dayThatComes);
        Check.test("term TURN: 999 of SUN at most", EdgeTurnTests::mostSun);
        Check.test("term TURN: 999 of RAIN at most", EdgeTurnTests::mostRain);
        Check.test("term TURN: as much as it NEEDS, or more", EdgeTurnTests::asMuch);
        Check.test("term TURN: of both", EdgeTurnTests::ofBoth);
        Check.test("term TURN: a CROP that is RIPE gets nothing more", EdgeTurnTests::ripeOnce);
        Check.test("term TURN: 999 in the PURSE at most", EdgeTurnTests::mostPurse);
        Check.test("term TURN: just as much FEED as HAY", EdgeTurnTests::justEnough);
        Check.test("term TURN: less FEED than HAY", EdgeTurnTests::tooLittle);
        Check.test("term TURN: the MULE, unless it is DEAD", EdgeTurnTests::dead);
        Check.test("term TURN: 9,999 at most", EdgeTurnTests::lastTurn);
        Check.test("term DAYS: modulo 2,520", EdgeTurnTests::daysRound);
        Check.test("term LOG: the MONTH and the DAY then, PULL", EdgeTurnTests::logRow);
        Check.test("term LOG: which CROPS got RIPE in it", EdgeTurnTests::logRipe);
        Check.test("term LOG: the latest 60", EdgeTurnTests::logSixty);
        Check.test("term LOG: UNDONE, too, when it is full", EdgeTurnTests::logUndone);
        Check.test("6 rule: no such what", EdgeTurnTests::ruleEdges);
        Check.test("6 rule: as they are now", EdgeTurnTests::ruleNow);
        Check.test("7 month: no such ones", EdgeTurnTests::monthEdges);
        Check.test("8 crop: no such ones", EdgeTurnTests::cropEdges);
        Check.test("11 turn: no PLAIN", EdgeTurnTests::turnNoPlain);
        Check.test("11 turn: 1 .. 60", EdgeTurnTests::turnBounds);
        Check.test("11 turn: beyond 9,999", EdgeTurnTests::turnBeyond);
        Check.test("22 log: no such ones", EdgeTurnTests::logEdges);
        Check.end();
    }

    private static void isAt(String when, MuleSeasons x, int month, int day) {
        Check.due("MONTH " + when, x.count(6), month);
        Check.due("DAY " + when, x.count(7), day);
    }

    private static void first() {
        isAt("at first", Check.plain("ml1;ml9;c"), 0, 0);
        isAt("without a PLAIN", new MuleSeasons(), 0, 0);
        Check.due("the way", Check.plain("ml1;ml9;c").count(8), 0);
        Check.due("DAYS that came", Check.plain("ml1;ml9;c").count(10), 0);
    }

    private static void nextMonth() {
        MuleSeasons x = Check.plainWithLaw("sh0;ml9;ml1;ml2;c", "y:1");
        for (int i = 1; i < 9; i++) {
            Check.due("turn", x.turn(1), 0);
            isAt("behind " + i, x, 0, i);
        }
        Check.due("behind the last DAY", x.turn(1), 1);
        isAt("behind 9", x, 1, 0);
        Check.due("a MONTH of one DAY", x.turn(1), 2);
        isAt("behind 10", x, 2, 0);
        x.turn(1);
        isAt("behind 11", x, 2, 1);
    }

    private static void nextYear() {
        MuleSeasons x = Check.plainWithLaw("sh0;ml1;ml1;c", "y:1");
        x.turn(1);
        isAt("the last MONTH", x, 1, 0);
        x.turn(1);
        isAt("the first one", x, 0, 0);
        MuleSeasons y = Check.plainWithLaw("sh0;ml9;ml9;ml9;ml9;ml9;ml9;ml9;ml9;c", "y:9");
        y.turn(7);
        isAt("the eighth MONTH", y, 7, 0);
        y.turn(1);
        isAt("the first one", y, 0, 0);
    }

    private static void otherWay() {
        MuleSeasons x = Check.plainWithLaw("sh0;ml2;ml1;ml9;c", "y:1");
        x.reverse();
        Check.due("ahead of MONTH 0 the last MONTH", x.turn(1), 2);
        isAt("its last DAY", x, 2, 8);
        x.turn(8);
        isAt("its first DAY", x, 2, 0);
        x.turn(1);
        isAt("the MONTH ahead", x, 1, 0);
        x.turn(1);
        isAt("the last DAY of the one ahead of it", x, 0, 1);
        x.turn(1);
        isAt("round", x, 0, 0);
        Check.due("DAYS came that way", x.count(10), 12);
    }

    private static void turnedThere() {
        MuleSeasons x = Check.plainWithLaw(PLAIN, "y:1");
        x.reverse();
        isAt("turned", x, 0, 0);
        x.turn(1);
        isAt("back", x, 2, 2);
        x.reverse();
        isAt("turned again", x, 2, 2);
        x.turn(1);
        isAt("forth", x, 0, 0);
    }

    private static void turnZero() {
        MuleSeasons x = Check.plain(PLAIN);
        Check.due("TURN", x.count(5), 0);
        Check.due("LOG", x.count(14), 0);
        x.turn(1);
        Check.due("one later", x.count(5), 1);
        Check.due("LOG", x.count(14), 1);
    }

    private static void asItBegins() {
        // From DAY 0 of the first MONTH five DAYS, though greased months come on the way.
        MuleSeasons x = Check.plainWithLaw("sh0;ml1;ml9g9;c", "y:k=0?5;y:g");
        x.turn(1);
        isAt("five", x, 1, 4);
        x.turn(1);
        isAt("nine more", x, 1, 3);
        // FEED as it begins: it is eaten behind.
        MuleSeasons y = Check.plainWithLaw("sf2h2;ml9;m;c", "y:f>0?4;y:1");
        y.turn(1);
        isAt("four", y, 0, 4);
        y.turn(1);
        isAt("one", y, 0, 5);
        // The MULE as it begins: it starves behind.
        MuleSeasons z = Check.plainWithLaw("sm1f0h1;ml9;m;c", "y:m*3");
        z.turn(1);
        isAt("three", z, 0, 3);
        z.turn(1);
        isAt("none", z, 0, 3);
    }

    private static void daysGoBy() {
        int[] worths = {0, 1, 8, 9, 10, 99};
        int[] days = {0, 1, 8, 9, 9, 9};
        for (int i = 0; i < worths.length; i++) {
            MuleSeasons x = Check.plainWithLaw("sh0;ml9;ml9;c", "y:" + worths[i]);
            x.turn(1);
            Check.due("DAYS by " + worths[i], x.count(10), days[i]);
            Check.due("PULL by " + worths[i], x.log(0, 2), days[i]);
            Check.due("a TURN by " + worths[i], x.count(5), 1);
        }
        MuleSeasons y = Check.plainWithLaw("sh0;ml9;ml9;c", "y:0-1");
        y.turn(1);
        Check.due("no DAY by -1", y.count(10), 0);
        isAt("where it was", y, 0, 0);
    }

    private static void dayThatComes() {
        // The DAY that it is does not come; that of the next MONTH does.
        MuleSeasons x = Check.plainWithLaw("sh0;ml1s9r8;ml1s1r2;c", "y:1");
        x.turn(1);
        Check.due("SUN", x.crop(0, 3), 1);
        Check.due("RAIN", x.crop(0, 4), 2);
        x.turn(1);
        Check.due("SUN", x.crop(0, 3), 10);
        Check.due("RAIN", x.crop(0, 4), 10);
        Check.due("RIPE", x.crop(0, 5), 1);
        MuleSeasons y = Check.plainWithLaw("sh0;ms0r0;ms0r0;c", "y:9");
        y.turn(9);
        Check.due("none of SUN 0", y.crop(0, 3), 0);
        Check.due("none of RAIN 0", y.crop(0, 4), 0);
    }

    private static void mostSun() {
        // 111 DAYS of nine are 999.
        MuleSeasons x = Check.plainWithLaw("sh0;ms9r0;ms9r0;cr1", "y:1");
        x.turn(60);
        x.turn(50);
        Check.due("110 DAYS", x.crop(0, 3), 990);
        x.turn(1);
        Check.due("111 DAYS", x.crop(0, 3), 999);
        x.turn(1);
        Check.due("112 DAYS", x.crop(0, 3), 999);
        MuleSeasons y = Check.plainWithLaw("sh0;ms8r0;ms8r0;cr1", "y:1");
        y.turn(60);
        y.turn(60);
        y.turn(4);
        Check.due("124 DAYS of eight", y.crop(0, 3), 992);
        y.turn(1);
        Check.due("1,000 is too much", y.crop(0, 3), 999);
        Check.due("not RIPE", y.crop(0, 5), 0);
    }

    private static void mostRain() {
        MuleSeasons x = Check.plainWithLaw("sh0;ms0r9;ms0r9;cs1;cs9", "y:1");
        x.turn(60);
        x.turn(50);
        Check.due("110 DAYS", x.crop(0, 4), 990);
        x.turn(1);
        Check.due("111 DAYS", x.crop(0, 4), 999);
        x.turn(1);
        Check.due("112 DAYS", x.crop(1, 4), 999);
        MuleSeasons y = Check.plainWithLaw("sh0;ms0r8;ms0r8;cs1", "y:5");
        y.turn(24);
        Check.due("120 DAYS of eight", y.crop(0, 4), 960);
        y.turn(1);
        Check.due("1,000 is too much", y.crop(0, 4), 999);
        Check.due("no SUN", y.crop(0, 3), 0);
        Check.due("not RIPE", y.crop(0, 5), 0);
    }

    private static void ripens(String crop, int turns, int due) {
        MuleSeasons x = Check.plainWithLaw("sh0;ml9s2r3;ml9s2r3;" + crop, "y:1");
        x.turn(turns);
        Check.due(crop + " behind " + turns, x.crop(0, 5), due);
        Check.due("bits of " + crop, x.count(9), due);
        Check.due("in the LOG of " + crop, x.log(0, 3), due);
        Check.due("PURSE by " + crop, x.rule(3), 10 + 10 * due);
    }

    private static void asMuch() {
        ripens("cs8r0", 4, 1);
        ripens("cs9r0", 4, 0);
        ripens("cs9r0", 5, 1);
        ripens("cs7r0", 4, 1);
        ripens("cs0r12", 4, 1);
        ripens("cs0r13", 4, 0);
        ripens("cs0r13", 5, 1);
        ripens("cs0r11", 4, 1);
        // What it needs is 0: it is RIPE by the first DAY that comes.
        ripens("cs0r0", 1, 1);
        Check.due("no DAY came", Check.plain("m;m;cs0r0").crop(0, 5), 0);
        MuleSeasons x = Check.plainWithLaw("m;m;cs0r0", "y:0");
        x.turn(3);
        Check.due("none came in three TURNS", x.crop(0, 5), 0);
    }

    private static void ofBoth() {
        ripens("cs8r12", 4, 1);
        ripens("cs8r13", 4, 0);
        ripens("cs9r12", 4, 0);
        ripens("cs9r13", 4, 0);
        ripens("cs9r13", 5, 1);
        ripens("cs99r1", 49, 0);
        ripens("cs99r1", 50, 1);
        ripens("cs1r99", 32, 0);
        ripens("cs1r99", 33, 1);
    }

    private static void ripeOnce() {
        MuleSeasons x = Check.plainWithLaw("sh0p0;ml9s2r3;ml9s2r3;cs4r6v7;cs99", "y:2");
        x.turn(1);
        Check.due("RIPE", x.crop(0, 5), 1);
        Check.due("PURSE", x.rule(3), 7);
        x.turn(9);
        Check.due("SUN", x.crop(0, 3), 4);
        Check.due("RAIN", x.crop(0, 4), 6);
        Check.due("PURSE still", x.rule(3), 7);
        Check.due("the other one goes on", x.crop(1, 3), 40);
        Check.due("once in the LOG", x.log(8, 3), 0);
    }

    /** Five crops, ripe each turn, sown again once: the purse and 396, less 10, and 396, and twice v. */
    private static int purseBehind(int purse, int v) {
        String crop = ";cs1r1v99";
        MuleSeasons x = Check.plainWithLaw("sh0p" + purse + ";m;m" + crop.repeat(4) + ";cs1r1v" + v, "y:1");
        x.turn(1);
        for (int i = 0; i < 5; i++) {
            x.sow(i);
        }
        x.turn(1);
        Check.due("all are RIPE", x.count(9), 31);
        return x.rule(3);
    }

    private static void mostPurse() {
        Check.due("998", purseBehind(98, 59), 998);
        Check.due("999", purseBehind(99, 59), 999);
        Check.due("1,000", purseBehind(98, 60), 999);
        Check.due("1,079", purseBehind(99, 99), 999);
    }

    private static void justEnough() {
        MuleSeasons x = Check.plain("sf6h3;m;m;c");
        x.turn(1);
        Check.due("FEED", x.rule(1), 3);
        x.turn(1);
        Check.due("just as much", x.rule(1), 0);
        Check.due("no less MULE", x.rule(0), 12);
        x.turn(1);
        Check.due("less", x.rule(0), 11);
        MuleSeasons y = Check.plain("sf0h0;m;m;c");
        y.turn(9);
        Check.due("none of none", y.rule(0), 12);
        MuleSeasons z = Check.plain("sf9h9;m;m;c");
        z.turn(1);
        Check.due("nine of nine", z.rule(0), 12);
        Check.due("none is left", z.rule(1), 0);
    }

    private static void tooLittle() {
        MuleSeasons x = Check.plain("sf8h9m30;m;m;c");
        x.turn(1);
        Check.due("FEED is 0 then", x.rule(1), 0);
        Check.due("the MULE one less", x.rule(0), 29);
        MuleSeasons y = Check.plain("sf0h1m2;m;m;c");
        y.turn(1);
        Check.due("one", y.rule(0), 1);
        y.turn(1);
        Check.due("DEAD", y.rule(0), 0);
    }

    private static void dead() {
        MuleSeasons x = Check.plain("sf0h1m1p40;m;m;c");
        x.turn(1);
        Check.due("DEAD", x.rule(0), 0);
        x.hay(2);
        x.turn(3);
        Check.due("it eats nothing", x.rule(1), 2);
        Check.due("it is no less", x.rule(0), 0);
        Check.due("no DAY", x.count(10), 0);
        Check.due("TURNS go by", x.count(5), 4);
        Check.due("LOG, too", x.count(14), 4);
        x.buy();
        x.turn(1);
        Check.due("another one eats", x.rule(1), 1);
    }

    static MuleSeasons atTurn(String plain, String law, int turns) {
        MuleSeasons x = Check.plainWithLaw(plain, law);
        for (int left = turns; left > 0; left -= Math.min(60, left)) {
            x.turn(Math.min(60, left));
        }
        Check.due("TURN", x.count(5), turns);
        return x;
    }

    private static void lastTurn() {
        MuleSeasons x = atTurn(PLAIN, "y:1", 9998);
        Check.due("the last one", x.turn(1), 2);
        Check.due("9,999", x.count(5), 9999);
        Check.due("none goes by", x.turn(1), -1);
        Check.due("9,999 still", x.count(5), 9999);
        Check.due("DAYS", x.count(10), 9999 % 2520);
        Check.due("by hand all goes on", x.reverse(), 1);
        Check.due("acts", x.count(15), 40);
        Check.due("undone", x.undo() == 39 && x.undo() == 38, true);
        Check.due("9,998", x.count(5), 9998);
        Check.due("one again", x.turn(1), 2);
    }

    private static void daysRound() {
        MuleSeasons x = atTurn("sh0;mp8;mp9;c", "y:1", 2519);
        Check.due("2,519", x.count(10), 2519);
        Check.due("LEVEL in one", x.level(0, 1), 1);
        x.turn(1);
        Check.due("2,520", x.count(10), 0);
        Check.due("LEVEL now", x.level(0, 1), 0);
        x.turn(1);
        Check.due("2,521", x.count(10), 1);
        Check.due("LEVEL in 71", x.level(0, 1), 71);
        x.undo();
        x.undo();
        Check.due("2,519 again", x.count(10), 2519);
    }

    private static void logRow() {
        MuleSeasons x = Check.plainWithLaw("sh0;ml9;ml9;ml9;ml9;ml9;ml9;ml9;ml9;c", "y:8");
        x.turn(1);
        int[] want = {0, 8, 8, 1};
        for (int what = 0; what < 4; what++) {
            Check.due("log(0, " + what + ")", x.log(0, what), want[what]);
        }
        x.turn(8);
        Check.due("MONTH 7", x.log(1, 0), 7);
        Check.due("its DAY", x.log(1, 1), 1);
        Check.due("MONTH 0", x.log(0, 0), 0);
        Check.due("its DAY", x.log(0, 1), 0);
        x.reverse();
        Check.due("an ACT by hand is not there", x.count(14), 9);
        x.law(-1);
        x.turn(1);
        Check.due("PULL without a LAW", x.log(0, 2), 2);
        Check.due("MONTH then", x.log(0, 0), 7);
        Check.due("DAY then", x.log(0, 1), 7);
    }

    private static void logRipe() {
        MuleSeasons x = Check.plainWithLaw("sh0;ml9s1r1;ml9s1r1;cs1r1;cs2r2;cs2r2;cs4r4;cs5r5", "y:1");
        x.turn(5);
        int[] want = {16, 8, 0, 6, 1};
        for (int i = 0; i < 5; i++) {
            Check.due("log(" + i + ", 3)", x.log(i, 3), want[i]);
        }
        Check.due("all", x.count(9), 31);
        MuleSeasons y = Check.plainWithLaw("sh0;ml9s1r1;ml9s1r1;cs1r1;cs2r2;cs2r2;cs4r4;cs5r5", "y:5");
        y.turn(1);
        Check.due("all in one TURN", y.log(0, 3), 31);
        y.turn(1);
        Check.due("none any more", y.log(0, 3), 0);
        y.sow(4);
        y.turn(1);
        Check.due("the last one again", y.log(0, 3), 16);
    }

    /** The day that the n-th turn ends on, one day a turn. */
    private static int dayOf(int n) {
        int[] days = {0, 1, 0, 0, 1, 2};
        return days[n % 6];
    }

    private static void logSixty() {
        MuleSeasons x = atTurn(PLAIN, "y:1", 59);
        Check.due("59", x.count(14), 59);
        Check.due("the first one", x.log(58, 1), dayOf(1));
        Check.due("none ahead of it", x.log(59, 1), -1);
        x.turn(1);
        Check.due("60", x.count(14), 60);
        Check.due("the first one", x.log(59, 1), dayOf(1));
        x.turn(1);
        Check.due("60 at most", x.count(14), 60);
        Check.due("the second one", x.log(59, 1), dayOf(2));
        Check.due("none ahead of it", x.log(60, 1), -1);
        MuleSeasons y = atTurn(PLAIN, "y:1", 130);
        Check.due("60 still", y.count(14), 60);
        for (int i = 0; i < 60; i++) {
            Check.due("log(" + i + ", 1)", y.log(i, 1), dayOf(130 - i));
        }
    }

    private static void logUndone() {
        MuleSeasons x = atTurn(PLAIN, "y:1", 99);
        for (int n = 98; n > 58; n--) {
            x.undo();
            int rows = Math.min(60, n);
            Check.due("how long at " + n, x.count(14), rows);
            for (int i = 0; i < rows; i++) {
                Check.due("log(" + i + ", 1) at " + n, x.log(i, 1), dayOf(n - i));
                Check.due("log(" + i + ", 2) at " + n, x.log(i, 2), 1);
            }
            Check.due("none ahead of it at " + n, x.log(rows, 2), -1);
        }
    }

    private static MuleSeasons plainOne() {
        return Check.plain("sm12f5h2p9;ml2s5r1p2;ml3s1r4p3;ml1g3;cs10r5v7;cs99v40");
    }

    private static void ruleEdges() {
        int[] none = {-1, 4, 5, Integer.MIN_VALUE, Integer.MAX_VALUE};
        for (int what : none) {
            Twin.unchanged("rule(" + what + ")", EdgeTurnTests::plainOne, x -> x.rule(what), -1);
        }
        int[] due = {12, 5, 2, 9};
        for (int what = 0; what < 4; what++) {
            int asked = what;
            Twin.unchanged("rule(" + what + ")", EdgeTurnTests::plainOne, x -> x.rule(asked), due[what]);
            Twin.unchanged("no PLAIN, " + what, MuleSeasons::new, x -> x.rule(asked), -1);
        }
    }

    private static void ruleNow() {
        MuleSeasons x = Check.plain("sm1f1h1p99;m;m;c");
        x.turn(2);
        x.hay(99);
        int[] due = {0, 99, 1, 0};
        for (int what = 0; what < 4; what++) {
            Check.due("rule(" + what + ")", x.rule(what), due[what]);
        }
    }

    private static void monthEdges() {
        int[] months = {-1, 3, 7, 8, Integer.MIN_VALUE, Integer.MAX_VALUE};
        for (int month : months) {
            for (int what = -1; what < 6; what++) {
                Check.due("month(" + month + ", " + what + ")", plainOne().month(month, what), -1);
                Check.due("no PLAIN", new MuleSeasons().month(month, what), -1);
            }
        }
        int[] whats = {-1, 5, Integer.MIN_VALUE, Integer.MAX_VALUE};
        for (int what : whats) {
            Twin.unchanged("month(0, " + what + ")", EdgeTurnTests::plainOne, x -> x.month(0, what), -1);
            Twin.unchanged("month(2, " + what + ")", EdgeTurnTests::plainOne, x -> x.month(2, what), -1);
        }
        Twin.unchanged("month(0, 0)", EdgeTurnTests::plainOne, x -> x.month(0, 0), 2);
        Twin.unchanged("month(2, 4)", EdgeTurnTests::plainOne, x -> x.month(2, 4), 4);
        Twin.unchanged("month(3, 0)", EdgeTurnTests::plainOne, x -> x.month(3, 0), -1);
        Twin.unchanged("month(0, 0) of none", MuleSeasons::new, x -> x.month(0, 0), -1);
        Check.due("the eighth", Check.plain("m;m;m;m;m;m;m;ml8p9;c").month(7, 4), 9);
        Check.due("a ninth", Check.plain("m;m;m;m;m;m;m;ml8p9;c").month(8, 0), -1);
    }

    private static void noCrop(Twin.Maker maker, int crop, int what) {
        String name = "crop(" + crop + ", " + what + ")";
        Check.noSuch(name, () -> maker.make().crop(crop, what));
        Twin.unchanged(name, maker, x -> {
            try {
                return x.crop(crop, what);
            } catch (java.util.NoSuchElementException e) {
                return 77;
            }
        }, 77);
    }

    private static void cropEdges() {
        noCrop(EdgeTurnTests::plainOne, -1, 0);
        noCrop(EdgeTurnTests::plainOne, 2, 0);
        noCrop(EdgeTurnTests::plainOne, 4, 5);
        noCrop(EdgeTurnTests::plainOne, 5, 0);
        noCrop(EdgeTurnTests::plainOne, 0, -1);
        noCrop(EdgeTurnTests::plainOne, 0, 6);
        noCrop(EdgeTurnTests::plainOne, 1, 6);
        noCrop(EdgeTurnTests::plainOne, Integer.MIN_VALUE, 0);
        noCrop(EdgeTurnTests::plainOne, Integer.MAX_VALUE, 5);
        noCrop(EdgeTurnTests::plainOne, 0, Integer.MIN_VALUE);
        noCrop(EdgeTurnTests::plainOne, 0, Integer.MAX_VALUE);
        noCrop(MuleSeasons::new, 0, 0);
        Twin.unchanged("crop(0, 0)", EdgeTurnTests::plainOne, x -> x.crop(0, 0), 10);
        Twin.unchanged("crop(1, 2)", EdgeTurnTests::plainOne, x -> x.crop(1, 2), 40);
        Twin.unchanged("crop(1, 5)", EdgeTurnTests::plainOne, x -> x.crop(1, 5), 0);
        Check.due("the fifth", Check.plain("m;m;c;c;c;c;cs7").crop(4, 0), 7);
        noCrop(() -> Check.plain("m;m;c;c;c;c;cs7"), 5, 0);
    }

    private static void turnNoPlain() {
        int[] turns = {-1, 0, 1, 60, 61};
        for (int n : turns) {
            Twin.refused("turn(" + n + ")", MuleSeasons::new, x -> x.turn(n), -1, 0);
        }
    }

    private static void turnBounds() {
        int[] none = {0, -1, 61, Integer.MIN_VALUE, Integer.MAX_VALUE};
        for (int n : none) {
            Twin.refused("turn(" + n + ")", EdgeTurnTests::plainOne, x -> x.turn(n), -1, 1);
        }
        MuleSeasons x = Check.plainWithLaw(PLAIN, "y:1");
        Check.due("turn(1)", x.turn(1), 0);
        Check.due("one", x.count(5), 1);
        Check.due("turn(60)", x.turn(60), 0);
        Check.due("61", x.count(5), 61);
        Check.due("its DAY", x.count(7), dayOf(61));
        Check.due("STATUS", x.status(1), 0);
    }

    private static void turnBeyond() {
        Twin.Maker at9998 = () -> atTurn(PLAIN, "y:1", 9998);
        Twin.Maker at9999 = () -> atTurn(PLAIN, "y:1", 9999);
        Twin.refused("turn(2)", at9998, x -> x.turn(2), -1, 4);
        Twin.refused("turn(60)", at9998, x -> x.turn(60), -1, 4);
        Twin.refused("turn(1)", at9999, x -> x.turn(1), -1, 4);
        Twin.refused("out of bounds first", at9999, x -> x.turn(61), -1, 1);
        Twin.refused("out of bounds first", at9999, x -> x.turn(0), -1, 1);
        MuleSeasons x = atTurn(PLAIN, "y:1", 9939);
        Check.due("sixty to 9,999", x.turn(60), 2);
        Check.due("9,999", x.count(5), 9999);
        Twin.refused("sixty to 10,000", () -> atTurn(PLAIN, "y:1", 9940), y -> y.turn(60), -1, 4);
    }

    private static MuleSeasons threeLogged() {
        MuleSeasons x = plainOne();
        x.turn(3);
        return x;
    }

    private static void logEdges() {
        int[] none = {-1, 3, 4, 59, 60, 61, Integer.MIN_VALUE, Integer.MAX_VALUE};
        for (int i : none) {
            Twin.unchanged("log(" + i + ", 0)", EdgeTurnTests::threeLogged, x -> x.log(i, 0), -1);
        }
        int[] whats = {-1, 4, Integer.MIN_VALUE, Integer.MAX_VALUE};
        for (int what : whats) {
            Twin.unchanged("log(0, " + what + ")", EdgeTurnTests::threeLogged, x -> x.log(0, what), -1);
        }
        Twin.unchanged("log(0, 0)", EdgeTurnTests::threeLogged, x -> x.log(0, 0), 0);
        Twin.unchanged("log(2, 3)", EdgeTurnTests::threeLogged, x -> x.log(2, 3), 0);
        Twin.unchanged("log(2, 2)", EdgeTurnTests::threeLogged, x -> x.log(2, 2), 2);
        Twin.unchanged("log(0, 0) of none", EdgeTurnTests::plainOne, x -> x.log(0, 0), -1);
        Twin.unchanged("log(0, 0) of no PLAIN", MuleSeasons::new, x -> x.log(0, 0), -1);
    }
}
