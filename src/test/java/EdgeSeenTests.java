/** The edges of poles, of what was SEEN, and of what is most: ==== 3, and promises 32, 33, 35 to 37, 40 and 41. */
public final class EdgeSeenTests {
    // One day a turn and one more for each grease of the month it is in.
    private static final String PLAIN = "sh0;ml3;ml5;ml4;c";
    private static final String LAW = "y:1+g";

    public static void main(String[] args) {
        Check.test("32 level: the first DAY from now on (0 .. 99)", EdgeSeenTests::levelDays);
        Check.test("32 level: all times of POLES", EdgeSeenTests::levelAll);
        Check.test("32 level: no such ones", EdgeSeenTests::levelNone);
        Check.test("33 year: how many DAYS all MONTHS have", EdgeSeenTests::year);
        Check.test("35 seen: 10 at most", EdgeSeenTests::seenTen);
        Check.test("35 seen: n 1 .. 40", EdgeSeenTests::seenBounds);
        Check.test("35 seen: no such MONTH", EdgeSeenTests::seenNoMonth);
        Check.test("36 who: g 1 .. 5", EdgeSeenTests::whoBounds);
        Check.test("36 who: no such one", EdgeSeenTests::whoNoOne);
        Check.test("36 who: no PLAIN", EdgeSeenTests::whoNoPlain);
        Check.test("36 who: none of them", EdgeSeenTests::whoNobody);
        Check.test("36 who: it was MONTH k, or was not", EdgeSeenTests::whoWasNot);
        Check.test("36 who: GREASED g more (9 at most)", EdgeSeenTests::whoNine);
        Check.test("36 who: 9, if it is so with none", EdgeSeenTests::whoNone);
        Check.test("36 who: from the PLAIN as told", EdgeSeenTests::whoAsTold);
        Check.test("36 who: behind 1 and behind 40 TURNS", EdgeSeenTests::whoFirstAndLast);
        Check.test("37 best: g 1 .. 5, no PLAIN", EdgeSeenTests::bestBounds);
        Check.test("37 best: nothing fits", EdgeSeenTests::bestNothing);
        Check.test("37 best: of several the least", EdgeSeenTests::bestSeveral);
        Check.test("37 best: the n 1 .. 40", EdgeSeenTests::bestTurns);
        Check.test("40 most: no such what, no PLAIN", EdgeSeenTests::mostEdges);
        Check.test("40 most: RICHEST, of several the lowest", EdgeSeenTests::richest);
        Check.test("40 most: DRIEST, of several the lowest", EdgeSeenTests::driest);
        Check.test("40 most: NEEDY, of several the lowest", EdgeSeenTests::needy);
        Check.test("40 most: NEEDY, each 0 at least", EdgeSeenTests::needyLeast);
        Check.test("40 most: NEEDY, all are RIPE", EdgeSeenTests::needyNone);
        Check.test("41 worths: VALUE of all that are not RIPE", EdgeSeenTests::worths);
        Check.end();
    }

    private static Twin.Maker plain(String text) {
        return () -> Check.plain(text);
    }

    private static MuleSeasons walked(String text, int days) {
        MuleSeasons x = Check.plainWithLaw(text, "y:1");
        for (int left = days; left > 0; left -= Math.min(60, left)) {
            x.turn(Math.min(60, left));
        }
        return x;
    }

    private static void levelDays() {
        String poles = "sh0;mp8;mp9;mp1;c";
        Twin.unchanged("the DAY it is", plain(poles), x -> x.level(0, 1), 0);
        Twin.unchanged("71 more", () -> walked(poles, 1), x -> x.level(0, 1), 71);
        Twin.unchanged("one more", () -> walked(poles, 71), x -> x.level(1, 0), 1);
        Twin.unchanged("none more", () -> walked(poles, 72), x -> x.level(0, 1), 0);
        Twin.unchanged("round 2,520", () -> walked(poles, 2519), x -> x.level(0, 1), 1);
        Twin.unchanged("at 2,520", () -> walked(poles, 2520), x -> x.level(0, 1), 0);
        Twin.unchanged("each DAY", () -> walked(poles, 5), x -> x.level(2, 2), 0);
        Twin.unchanged("one MONTH alone", () -> walked(poles, 5), x -> x.level(0, 0), 3);
        MuleSeasons y = walked(poles, 5);
        y.undo();
        Check.due("DAYS that came are undone", y.level(0, 0), 4);
    }

    private static void levelAll() {
        int[] came = {0, 1, 7, 36, 59};
        for (int days : came) {
            MuleSeasons x = walked("sh0;mp1;mp2;mp3;mp4;mp5;mp6;mp7;mp8;c", days);
            for (int one = 0; one < 8; one++) {
                for (int other = 0; other < 8; other++) {
                    int due = 0;
                    while ((days + due) % (one + 1) != 0 || (days + due) % (other + 1) != 0) {
                        due++;
                    }
                    Check.due("level(" + one + ", " + other + ") behind " + days, x.level(one, other), due);
                }
            }
        }
    }

    private static void levelNone() {
        int[] none = {-1, 3, 7, 8, 9, Integer.MIN_VALUE, Integer.MAX_VALUE};
        Twin.Maker later = () -> walked("sh0;mp1;mp1;mp1;cs1r1;cs99", 7);
        for (int month : none) {
            Twin.unchanged("level(" + month + ", 0)", later, x -> x.level(month, 0), -1);
            Twin.unchanged("level(0, " + month + ")", later, x -> x.level(0, month), -1);
            Twin.unchanged("level of both", later, x -> x.level(month, month), -1);
            Twin.unchanged("level(" + month + ", 0) at first", plain(PLAIN), x -> x.level(month, 0), -1);
        }
        Twin.unchanged("no PLAIN", MuleSeasons::new, x -> x.level(0, 0), -1);
        Twin.unchanged("the last one", plain(PLAIN), x -> x.level(2, 2), 0);
    }

    private static void year() {
        Twin.unchanged("no PLAIN", MuleSeasons::new, x -> x.year(), -1);
        Twin.unchanged("the least", plain("ml1;ml1;c"), x -> x.year(), 2);
        Twin.unchanged("the most", plain("ml9;ml9;ml9;ml9;ml9;ml9;ml9;ml9;c"), x -> x.year(), 72);
        Twin.unchanged("without", plain("m;m;c"), x -> x.year(), 6);
        Twin.unchanged("whichever TURN it is", () -> walked("sh0;ml2;ml9;c", 9), x -> x.year(), 11);
        Twin.unchanged("the other way, too", () -> {
            MuleSeasons x = walked("sh0;ml9;ml9;ml9;ml9;ml9;ml9;ml9;ml9;c", 70);
            x.reverse();
            return x;
        }, x -> x.year(), 72);
    }

    private static MuleSeasons seenSome(int many) {
        MuleSeasons x = Check.plainWithLaw(PLAIN, LAW);
        for (int i = 1; i <= many; i++) {
            Check.due("seen", x.seen(1, 0, true), i);
        }
        return x;
    }

    private static void seenTen() {
        Check.due("a tenth one", seenSome(9).seen(40, 2, false), 10);
        Twin.unchanged("an eleventh one", () -> seenSome(10), x -> x.seen(1, 0, true), -1);
        Twin.unchanged("one that fits nobody", () -> seenSome(10), x -> x.seen(1, 2, true), -1);
        MuleSeasons x = seenSome(10);
        Check.due("all fit", x.who(1, -1), 4);
        MuleSeasons y = seenSome(9);
        y.seen(1, 2, true);
        Check.due("the tenth one counts", y.who(1, -1), 0);
        Check.type(y, "m;m;c");
        y.text(0);
        Check.due("of another PLAIN", y.seen(1, 0, true), 1);
    }

    private static void seenBounds() {
        int[] none = {0, -1, 41, 42, Integer.MIN_VALUE, Integer.MAX_VALUE};
        for (int n : none) {
            Twin.unchanged("n " + n, () -> seenSome(2), x -> x.seen(n, 0, true), -1);
            Twin.unchanged("n " + n + ", was not", () -> seenSome(2), x -> x.seen(n, 0, false), -1);
        }
        Check.due("n 1", seenSome(2).seen(1, 0, true), 3);
        Check.due("n 40", seenSome(2).seen(40, 0, true), 3);
    }

    private static void seenNoMonth() {
        int[] none = {-1, 3, 7, 8, Integer.MIN_VALUE, Integer.MAX_VALUE};
        for (int month : none) {
            Twin.unchanged("MONTH " + month, () -> seenSome(2), x -> x.seen(1, month, true), -1);
            Twin.unchanged("MONTH " + month + " was not", () -> seenSome(2), x -> x.seen(1, month, false), -1);
        }
        Check.due("the last one", seenSome(2).seen(1, 2, true), 3);
        Twin.unchanged("no PLAIN", MuleSeasons::new, x -> x.seen(1, 0, true), -1);
    }

    private static void suspects(Twin.Maker maker, int g, int... want) {
        Twin.unchanged("how many", maker, x -> x.who(g, -1), want.length);
        for (int i = 0; i < want.length; i++) {
            int asked = i;
            Twin.unchanged("who " + i, maker, x -> x.who(g, asked), want[i]);
        }
        Twin.unchanged("no more", maker, x -> x.who(g, want.length), -1);
    }

    private static void whoBounds() {
        int[] none = {0, -1, 6, 7, Integer.MIN_VALUE, Integer.MAX_VALUE};
        for (int g : none) {
            Twin.unchanged("g " + g, () -> seenSome(1), x -> x.who(g, -1), -1);
            Twin.unchanged("g " + g, () -> seenSome(1), x -> x.who(g, 0), -1);
        }
        // Behind one TURN: by 1 and 2 it is MONTH 0 still, by 5 on DAY 6 MONTH 1.
        suspects(() -> seenSome(1), 1, 0, 1, 2, 9);
        suspects(() -> seenSome(1), 5, 1, 2, 9);
    }

    private static void whoNoOne() {
        int[] none = {4, 5, 9, 10, -2, -3, Integer.MIN_VALUE, Integer.MAX_VALUE};
        for (int i : none) {
            Twin.unchanged("i " + i, () -> seenSome(1), x -> x.who(1, i), -1);
        }
        Twin.unchanged("i 3", () -> seenSome(1), x -> x.who(1, 3), 9);
        Twin.unchanged("i 0", () -> seenSome(1), x -> x.who(1, 0), 0);
        suspects(() -> Check.plainWithLaw("sh0;m;m;m;m;m;m;m;m;c", "y:0"), 1, 0, 1, 2, 3, 4, 5, 6, 7, 9);
        suspects(() -> Check.plainWithLaw("sh0;m;m;c", "y:0"), 1, 0, 1, 9);
    }

    private static void whoNoPlain() {
        Twin.unchanged("how many", MuleSeasons::new, x -> x.who(1, -1), -1);
        Twin.unchanged("the first one", MuleSeasons::new, x -> x.who(1, 0), -1);
        Twin.unchanged("nothing SEEN", () -> Check.plain(PLAIN), x -> x.who(1, -1), 4);
    }

    private static MuleSeasons seenRow(Object... row) {
        MuleSeasons x = Check.plainWithLaw(PLAIN, LAW);
        for (int i = 0; i < row.length; i += 3) {
            x.seen((Integer) row[i], (Integer) row[i + 1], (Boolean) row[i + 2]);
        }
        return x;
    }

    private static void whoNobody() {
        suspects(() -> seenRow(1, 2, true), 1);
        suspects(() -> seenRow(1, 0, true, 1, 0, false), 1);
        suspects(() -> seenRow(1, 0, false), 1);
    }

    private static void whoWasNot() {
        // Behind 2 TURNS: by 0 DAY 4 and MONTH 1, by the others DAY 2 and MONTH 0.
        suspects(() -> seenRow(2, 0, true), 1, 1, 2, 9);
        suspects(() -> seenRow(2, 0, false), 1, 0);
        suspects(() -> seenRow(2, 1, true), 1, 0);
        suspects(() -> seenRow(2, 1, false), 1, 1, 2, 9);
        suspects(() -> seenRow(2, 2, false), 1, 0, 1, 2, 9);
        suspects(() -> seenRow(2, 0, false, 2, 1, false), 1);
        // Behind 6 by 1 DAY 9 and MONTH 2, by 2 and by none DAY 6 and MONTH 1.
        suspects(() -> seenRow(2, 0, true, 6, 2, true), 1, 1);
        suspects(() -> seenRow(2, 0, true, 6, 2, false), 1, 2, 9);
    }

    private static void whoNine() {
        // DAYS by the grease that there is: nine leave MONTH 0, less do not.
        String law = "y:g";
        suspects(() -> nine("sh0;ml9g8;ml9;m;c", law, 1), 1, 0);
        suspects(() -> nine("sh0;ml9g8;ml9;m;c", law, 1), 5, 0);
        suspects(() -> nine("sh0;ml9g4;ml9;m;c", law, 1), 4);
        suspects(() -> nine("sh0;ml9g4;ml9;m;c", law, 1), 5, 0);
        suspects(() -> nine("sh0;ml9g9;ml9;m;c", law, 1), 5, 0, 1, 2, 9);
        suspects(() -> nine("sh0;ml9g9;ml9;m;c", "y:g>9?1;y:9", 1), 5, 0, 1, 2, 9);
        suspects(() -> nine("sh0;ml9g8;ml9;m;c", "y:g>9?1;y:9", 1), 2, 0, 1, 2, 9);
    }

    private static MuleSeasons nine(String text, String law, int month) {
        MuleSeasons x = Check.plainWithLaw(text, law);
        x.seen(1, month, true);
        return x;
    }

    private static void whoNone() {
        suspects(() -> Check.plainWithLaw(PLAIN, "y:1"), 1, 0, 1, 2, 9);
        suspects(() -> seenRow(2, 1, false, 6, 2, false, 10, 2, true), 1, 9);
        suspects(() -> seenRow(2, 1, false, 6, 2, false, 10, 2, false), 1, 2);
        suspects(() -> seenRow(2, 1, true), 1, 0);
    }

    private static void whoAsTold() {
        Twin.Maker maker = () -> {
            MuleSeasons x = seenRow(2, 0, true, 6, 2, true);
            x.turn(5);
            x.reverse();
            x.grease(0);
            x.grease(1);
            x.chip(2);
            x.image();
            x.turn(2);
            return x;
        };
        suspects(maker, 1, 1);
        suspects(() -> {
            MuleSeasons x = maker.make();
            x.undo();
            x.back();
            x.turn(1);
            return x;
        }, 1, 1);
        suspects(() -> EdgeTurnTests.atTurn(PLAIN, LAW, 9999), 1, 0, 1, 2, 9);
    }

    private static void whoFirstAndLast() {
        // One DAY a TURN of 200: behind 40 it is DAY 40, with one more of MONTH 0 it would be 41.
        String text = "sh0;ml9;ml9;ml9;ml9;ml4;ml9;c";
        Twin.Maker at40 = () -> {
            MuleSeasons x = Check.plainWithLaw(text, "y:k=0&d=0?1+g;y:1");
            x.seen(39, 4, false);
            return x;
        };
        suspects(at40, 1, 0);
        suspects(() -> {
            MuleSeasons x = Check.plainWithLaw(text, "y:k=0&d=0?1+g;y:1");
            x.seen(40, 5, true);
            x.seen(39, 4, true);
            return x;
        }, 1, 1, 2, 3, 4, 5, 9);
        suspects(() -> {
            MuleSeasons x = Check.plainWithLaw("sh0;ml2;ml9;c", LAW);
            x.seen(1, 0, false);
            return x;
        }, 1, 0);
    }

    private static void bestBounds() {
        int[] none = {0, -1, 6, 7, Integer.MIN_VALUE, Integer.MAX_VALUE};
        for (int g : none) {
            Twin.unchanged("g " + g, () -> seenSome(1), x -> x.best(g), -1);
        }
        Twin.unchanged("g 1", () -> seenSome(1), x -> x.best(1), 6);
        // 1, 2 and none are left; behind 4 to 11 TURNS two of them are in one MONTH, behind 12 in 2, 1 and 0.
        Twin.unchanged("g 5", () -> seenSome(1), x -> x.best(5), 12);
        Twin.unchanged("no PLAIN", MuleSeasons::new, x -> x.best(1), -1);
        Twin.unchanged("no PLAIN, 5", MuleSeasons::new, x -> x.best(5), -1);
    }

    private static void bestNothing() {
        Twin.unchanged("nothing fits", () -> seenRow(1, 2, true), x -> x.best(1), -1);
        Twin.unchanged("nothing fits", () -> seenRow(1, 0, true, 1, 0, false), x -> x.best(5), -1);
        Twin.unchanged("one fits", () -> seenRow(2, 0, false), x -> x.best(1), 1);
    }

    private static void bestSeveral() {
        Twin.unchanged("all alike", () -> Check.plainWithLaw(PLAIN, "y:1"), x -> x.best(5), 1);
        Twin.unchanged("all nine alike", () -> Check.plainWithLaw("m;m;m;m;m;m;m;m;c", "y:0"), x -> x.best(1), 1);
        // Behind 2 three of four tell MONTH 0, behind 6 two MONTH 1 and two MONTH 2: the first by two.
        Twin.unchanged("two and two", () -> Check.plainWithLaw(PLAIN, LAW), x -> x.best(1), 6);
        Twin.unchanged("one of one each", () -> seenRow(2, 0, true, 6, 2, false), x -> x.best(1), 10);
    }

    private static void bestTurns() {
        Twin.unchanged("1", () -> Check.plainWithLaw("sh0;ml2;ml9;c", LAW), x -> x.best(1), 1);
        Twin.Maker last = () -> {
            MuleSeasons x = Check.plainWithLaw("sh0;ml9;ml9;ml9;ml9;ml3;ml2;ml9;c", LAW);
            x.seen(8, 0, true);
            x.seen(17, 1, true);
            x.seen(26, 2, true);
            x.seen(35, 3, true);
            x.seen(38, 4, true);
            return x;
        };
        suspects(last, 1, 5, 6, 9);
        Twin.unchanged("40", last, x -> x.best(1), 40);
        // With one DAY more of the sixth MONTH they are alike up to 40.
        Twin.Maker beyond = () -> {
            MuleSeasons x = Check.plainWithLaw("sh0;ml9;ml9;ml9;ml9;ml3;ml3;ml9;c", LAW);
            x.seen(8, 0, true);
            x.seen(17, 1, true);
            x.seen(26, 2, true);
            x.seen(35, 3, true);
            x.seen(38, 4, true);
            return x;
        };
        suspects(beyond, 1, 5, 6, 9);
        Twin.unchanged("alike up to 40", beyond, x -> x.best(1), 1);
    }

    private static void mostEdges() {
        int[] none = {-1, 3, 4, Integer.MIN_VALUE, Integer.MAX_VALUE};
        for (int what : none) {
            Twin.unchanged("most(" + what + ")", plain(PLAIN), x -> x.most(what), -1);
        }
        for (int what = -1; what < 4; what++) {
            int asked = what;
            Twin.unchanged("no PLAIN, " + what, MuleSeasons::new, x -> x.most(asked), -1);
        }
        for (int what = 0; what < 3; what++) {
            int asked = what;
            Twin.unchanged("most(" + what + ")", plain(PLAIN), x -> x.most(asked), 0);
        }
    }

    private static void richest() {
        Twin.unchanged("the last one by one", plain("ms5r5;ms4r5;ms6r5;c"), x -> x.most(0), 2);
        Twin.unchanged("of two alike", plain("ms1r1;ms9r0;ms0r9;c"), x -> x.most(0), 1);
        Twin.unchanged("of all alike", plain("ms0r0;ms0r0;c"), x -> x.most(0), 0);
        Twin.unchanged("the most", plain("ms9r8;m;m;m;m;m;m;ms9r9;c"), x -> x.most(0), 7);
        Twin.unchanged("of eight", plain("ms0r1;m;ms0r0;m;m;m;m;ms3r4;cv99"), x -> x.most(0), 7);
        Twin.unchanged("of eight, whatever CROPS got", () -> walked("sh0;m;m;m;m;m;m;m;m;cs99v99", 60), x -> x.most(0), 0);
        MuleSeasons x = Check.plain("ms5r9;ms5r8;c");
        x.chip(0);
        Check.due("13 and 13 as it is now", x.most(0), 0);
        x.chip(0);
        Check.due("12 and 13", x.most(0), 1);
    }

    private static void driest() {
        Twin.unchanged("the last one by one", plain("mr5;mr6;mr4;c"), x -> x.most(1), 2);
        Twin.unchanged("of two alike", plain("mr9;mr0;mr0;c"), x -> x.most(1), 1);
        Twin.unchanged("of all alike", plain("mr9;mr9;c"), x -> x.most(1), 0);
        Twin.unchanged("of eight", plain("mr9;mr9;mr9;mr9;mr9;mr9;mr9;mr8;c"), x -> x.most(1), 7);
        MuleSeasons x = Check.plain("mr4;mr5;c");
        x.chip(0);
        Check.due("5 and 5 as it is now", x.most(1), 0);
        x.chip(0);
        Check.due("6 and 5", x.most(1), 1);
    }

    private static void needy() {
        Twin.unchanged("the last one by one", plain("m;m;cs5r5;cs5r4;cs6r5"), x -> x.most(2), 2);
        Twin.unchanged("of two alike", plain("m;m;cs1r1;cs99r0;cs0r99"), x -> x.most(2), 1);
        Twin.unchanged("of all alike", plain("m;m;c;c;c;c;c"), x -> x.most(2), 0);
        Twin.unchanged("0, but not RIPE", plain("m;m;cs0r0;cs0r0"), x -> x.most(2), 0);
        Twin.unchanged("the fifth", plain("m;m;c;c;c;c;cs99r99"), x -> x.most(2), 4);
    }

    private static void needyLeast() {
        // Behind four DAYS of nine SUN and one RAIN: 4 and 8 still, against 0 (and six too much) and 16.
        MuleSeasons x = Check.plainWithLaw("sh0;ml9s9r1;m;cs40r12;cs30r20;cs36r4", "y:4");
        Check.due("52, 50, 40", x.most(2), 0);
        x.turn(1);
        Check.due("12, 16, RIPE", x.most(2), 1);
        MuleSeasons y = Check.plainWithLaw("sh0;ml9s1r9;m;cr40s12;cr30s20", "y:4");
        y.turn(1);
        Check.due("12, 16 the other way round", y.most(2), 1);
        // Eight SUN and four RAIN came: what is too much takes nothing off, what is enough adds nothing.
        neediest("cs7r9;cs9r8", 0);
        neediest("cs8r9;cs9r8", 0);
        neediest("cs8r9;cs9r9", 1);
        neediest("cs13r3;cs9r8", 0);
        neediest("cs13r4;cs9r8", 0);
        neediest("cs13r4;cs9r9", 1);
    }

    private static void neediest(String crops, int due) {
        MuleSeasons x = Check.plainWithLaw("sh0;ml9s2r1;m;" + crops, "y:4");
        x.turn(1);
        Check.due("NEEDY of " + crops, x.most(2), due);
    }

    private static void needyNone() {
        Twin.Maker both = () -> {
            MuleSeasons x = Check.plainWithLaw("sh0;m;m;cs3r3;cs6r6", "y:1");
            x.turn(2);
            return x;
        };
        Twin.unchanged("all are RIPE", both, x -> x.most(2), -1);
        Twin.unchanged("RICHEST all the same", both, x -> x.most(0), 0);
        MuleSeasons x = both.make();
        x.undo();
        Check.due("one is not", x.most(2), 1);
        x.turn(1);
        x.sow(0);
        Check.due("SOWN again", x.most(2), 0);
    }

    private static void worths() {
        Twin.unchanged("no PLAIN", MuleSeasons::new, x -> x.worths(), -1);
        Twin.unchanged("the least", plain("m;m;cv0"), x -> x.worths(), 0);
        Twin.unchanged("the most", plain("m;m;cv99;cv99;cv99;cv99;cv99"), x -> x.worths(), 495);
        MuleSeasons x = Check.plainWithLaw("sh0;m;m;cs3r3v7;cs6r6v9;cs9r9v20", "y:1");
        int[] due = {36, 29, 20, 0, 0};
        for (int t = 0; t < 5; t++) {
            Check.due("behind " + t, x.worths(), due[t]);
            x.turn(1);
        }
        x.sow(1);
        Check.due("SOWN again", x.worths(), 9);
        MuleSeasons y = Check.plainWithLaw("sh0;ml9;ml9;m;m;m;m;m;mp9;cs99v9;cs99v8;cs3r3v7;cs99v6;cs99v5", "y:1");
        Check.due("of five", y.worths(), 35);
        for (int t = 1; t < 20; t++) {
            y.turn(1);
            Check.due("of five behind " + t, y.worths(), 28);
            Check.due("NEEDY of five behind " + t, y.most(2), 0);
            Check.due("RIPE of five behind " + t, y.count(9), 4);
        }
    }
}
