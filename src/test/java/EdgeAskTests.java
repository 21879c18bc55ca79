/** The edges of what is asked apart: ==== 3, and promises 23 to 31, 34, 38, 39 and 42. */
public final class EdgeAskTests {
    private static final int HIDDEN = -1000000;
    private static final String PLAIN = "sh0f20p30;ml2s5r1p2;ml1s1r4p3;ml3g3;cs10r5v7;cs99v40";

    public static void main(String[] args) {
        Check.test("apart: TURNS go on behind 9,999", EdgeAskTests::behindLast);
        Check.test("apart: from as it is now", EdgeAskTests::fromNow);
        Check.test("apart: the same again", EdgeAskTests::sameAgain);
        Check.test("23 ahead: n 0 .. 60", EdgeAskTests::aheadBounds);
        Check.test("23 ahead: no such what, no PLAIN", EdgeAskTests::aheadWhat);
        Check.test("23 ahead: the OTHER way", EdgeAskTests::aheadOther);
        Check.test("24 soonest: 0, it is", EdgeAskTests::soonestNow);
        Check.test("24 soonest: as a TURN ends", EdgeAskTests::soonestEnds);
        Check.test("24 soonest: not within 200", EdgeAskTests::soonestNever);
        Check.test("24 soonest: no such MONTH", EdgeAskTests::soonestNoMonth);
        Check.test("25 least: n 1 .. 60", EdgeAskTests::leastBounds);
        Check.test("25 least: 0 .. 99", EdgeAskTests::leastFeed);
        Check.test("25 least: no bound of 99 on both together", EdgeAskTests::leastAbove);
        Check.test("25 least: all CROPS, those that are, too", EdgeAskTests::leastAll);
        Check.test("26 ripens: 0 .. 200", EdgeAskTests::ripensBounds);
        Check.test("26 ripens: no such CROP", EdgeAskTests::ripensNoCrop);
        Check.test("27 oil: k 1 .. 3", EdgeAskTests::oilRows);
        Check.test("27 oil: n 1 .. 40", EdgeAskTests::oilTurns);
        Check.test("27 oil: no such what, no PLAIN", EdgeAskTests::oilWhat);
        Check.test("27 oil: none less than the one ahead of it", EdgeAskTests::oilDigits);
        Check.test("27 oil: 9 at most", EdgeAskTests::oilNine);
        Check.test("27 oil: of several the least row", EdgeAskTests::oilSeveral);
        Check.test("27 oil: VALUE that gets RIPE", EdgeAskTests::oilValue);
        Check.test("28 game: no such ones, alike", EdgeAskTests::gameMonths);
        Check.test("28 game: out of bounds", EdgeAskTests::gameBounds);
        Check.test("28 game: no bound of 99", EdgeAskTests::gameAbove);
        Check.test("28 game: twice how many DAYS, less what it gives", EdgeAskTests::gameHas);
        Check.test("29 rests: as for GAME", EdgeAskTests::restsGame);
        Check.test("29 rests: how many, the i-th", EdgeAskTests::restsRow);
        Check.test("29 rests: x and y 0 .. 9", EdgeAskTests::restsEnds);
        Check.test("29 rests: none at all", EdgeAskTests::restsNone);
        Check.test("30 shares: no such one, out of bounds", EdgeAskTests::sharesBounds);
        Check.test("30 shares: cut; none, 0", EdgeAskTests::sharesCut);
        Check.test("31 ride: no such ones, alike", EdgeAskTests::rideMonths);
        Check.test("31 ride: now, or behind 1 .. 200 TURNS", EdgeAskTests::rideFrom);
        Check.test("31 ride: not within 200 each", EdgeAskTests::rideNever);
        Check.test("34 never: n 1 .. 60", EdgeAskTests::neverBounds);
        Check.test("34 never: DAYS that come", EdgeAskTests::neverDays);
        Check.test("38 odds: n 0 .. 30, a chance 0 .. 100", EdgeAskTests::oddsBounds);
        Check.test("38 odds: chance by 100 of each part, cut", EdgeAskTests::oddsCut);
        Check.test("38 odds: of a DEAD MULE, of one of 30", EdgeAskTests::oddsMule);
        Check.test("39 price: c 1 .. 999", EdgeAskTests::priceBounds);
        Check.test("39 price: rounded up", EdgeAskTests::priceUp);
        Check.test("42 lasts: 0 .. 200", EdgeAskTests::lastsBounds);
        Check.test("42 lasts: no PLAIN", EdgeAskTests::lastsNoPlain);
        Check.end();
    }

    private static final int[] FAR = {Integer.MIN_VALUE, Integer.MIN_VALUE + 1, Integer.MAX_VALUE - 1, Integer.MAX_VALUE};

    private static Twin.Maker plain(String text) {
        return () -> Check.plain(text);
    }

    private static Twin.Maker with(String text, String law) {
        return () -> Check.plainWithLaw(text, law);
    }

    /** The same questions to both: alike now, but for the turns that went by. */
    private static void behindLast() {
        MuleSeasons late = EdgeTurnTests.atTurn(PLAIN, "y:0", 9999);
        MuleSeasons early = Check.plainWithLaw(PLAIN, "y:0");
        Check.addLaw(late, "y:1+f/25+g/4");
        Check.addLaw(early, "y:1+f/25+g/4");
        for (int n = 1; n <= 60; n += 59) {
            Check.due("ahead", late.ahead(n, false, 1), early.ahead(n, false, 1));
            Check.due("ahead the OTHER way", late.ahead(n, true, 0), early.ahead(n, true, 0));
            Check.due("least", late.least(n), early.least(n));
            Check.due("shares", late.shares(2, n, 999), early.shares(2, n, 999));
            Check.due("never", late.never(n), early.never(n));
        }
        for (int i = 0; i < 3; i++) {
            Check.due("soonest", late.soonest(i), early.soonest(i));
            Check.due("ride", late.ride(i, (i + 1) % 3), early.ride(i, (i + 1) % 3));
        }
        Check.due("ripens", late.ripens(0), early.ripens(0));
        Check.due("ripens", late.ripens(1), early.ripens(1));
        Check.due("oil", late.oil(2, 5, 0), early.oil(2, 5, 0));
        Check.due("oil", late.oil(2, 5, 1), early.oil(2, 5, 1));
        Check.due("game", late.game(0, 2, 9, 3, 4, 0), early.game(0, 2, 9, 3, 4, 0));
        Check.due("rests", late.rests(0, 2, 9, 0), early.rests(0, 2, 9, 0));
        Check.due("soonest is not NONE", early.soonest(2) > 0, true);
        Check.due("ripens is not NONE", early.ripens(0) > 0, true);
        MuleSeasons dying = EdgeTurnTests.atTurn("sf0h0m3;m;m;c", "y:0", 9999);
        Check.due("lasts for ever", dying.lasts(), -1);
        MuleSeasons hungry = EdgeTurnTests.atTurn("sf9h1m3;m;m;c", "y:0", 5);
        Check.due("lasts from now", hungry.lasts(), 7);
    }

    private static void fromNow() {
        MuleSeasons x = Check.plainWithLaw(PLAIN, "y:1");
        x.turn(5);
        x.reverse();
        x.chip(0);
        Check.due("from DAY 2 of MONTH 2 back", x.ahead(2, false, 1), 0);
        Check.due("its MONTH", x.ahead(2, false, 0), 2);
        Check.due("turned again", x.ahead(1, true, 0), 0);
        Check.due("soonest", x.soonest(1), 3);
        Check.due("ride", x.ride(1, 2), 3);
        Check.due("never", x.never(2), 3);
        Check.due("shares", x.shares(2, 4, 100), 50);
        Check.due("game", x.game(1, 0, 4, 0, 1, 1), 1);
        x.law(-1);
        Check.due("without a LAW", x.ahead(1, false, 1), 0);
    }

    /** What was asked ahead of it tells nothing. */
    private static void sameAgain() {
        Twin.Call[] asked = {x -> x.ahead(9, true, 0), x -> x.soonest(2), x -> x.least(9), x -> x.ripens(0),
            x -> x.oil(2, 9, 0), x -> x.oil(1, 9, 1), x -> x.game(0, 1, 9, 3, 4, 0), x -> x.game(2, 1, 4, 0, 1, 1),
            x -> x.rests(0, 2, 9, -1), x -> x.rests(2, 1, 3, 0), x -> x.shares(1, 9, 100), x -> x.ride(1, 2),
            x -> x.level(0, 2), x -> x.never(1), x -> x.who(1, -1), x -> x.who(5, 1), x -> x.best(3), x -> x.odds(30, 40),
            x -> x.odds(5, 40), x -> x.price(9, 33, 999), x -> x.most(2), x -> x.lasts()};
        String text = "sf20h1m5p30;ml2s5r1p2;ml1s1r4p3;ml3g3;cs10r5v7;cs99v40";
        MuleSeasons together = Check.plainWithLaw(text, "y:1+f/15+g/4");
        for (int round = 0; round < 2; round++) {
            for (int i = 0; i < asked.length; i++) {
                long alone = asked[i].on(Check.plainWithLaw(text, "y:1+f/15+g/4"));
                Check.due("call " + i, asked[i].on(together), alone);
            }
        }
    }

    private static void aheadBounds() {
        int[] none = {-1, 61, 62};
        for (int n : none) {
            Twin.unchanged("ahead(" + n + ")", with(PLAIN, "y:1"), x -> x.ahead(n, false, 0), -1);
            Twin.unchanged("ahead(" + n + ") the OTHER way", with(PLAIN, "y:1"), x -> x.ahead(n, true, 1), -1);
        }
        for (int n : FAR) {
            Twin.unchanged("ahead(" + n + ")", with(PLAIN, "y:1"), x -> x.ahead(n, false, 0), -1);
        }
        Twin.unchanged("ahead(0)", with(PLAIN, "y:1"), x -> x.ahead(0, false, 0), 0);
        Twin.unchanged("its DAY", with(PLAIN, "y:1"), x -> x.ahead(0, true, 1), 0);
        Twin.unchanged("ahead(60)", with("sh0;ml9;m;ml9;c", "y:1"), x -> x.ahead(60, false, 0), 2);
        Twin.unchanged("its DAY", with("sh0;ml9;m;ml9;c", "y:1"), x -> x.ahead(60, false, 1), 6);
        Twin.unchanged("ahead(59)", with("sh0;ml9;m;ml9;c", "y:1"), x -> x.ahead(59, false, 1), 5);
    }

    private static void aheadWhat() {
        int[] none = {-1, 2, Integer.MIN_VALUE, Integer.MAX_VALUE};
        for (int what : none) {
            Twin.unchanged("what " + what, plain(PLAIN), x -> x.ahead(1, false, what), -1);
        }
        Twin.unchanged("no PLAIN", MuleSeasons::new, x -> x.ahead(0, false, 0), -1);
        Twin.unchanged("no PLAIN the OTHER way", MuleSeasons::new, x -> x.ahead(1, true, 1), -1);
    }

    private static void aheadOther() {
        MuleSeasons x = Check.plainWithLaw("sh0;ml2;ml1;ml3;c", "y:1");
        Check.due("ahead of DAY 0", x.ahead(1, true, 0), 2);
        Check.due("its DAY", x.ahead(1, true, 1), 2);
        Check.due("round", x.ahead(6, true, 0), 0);
        Check.due("the way stays", x.count(8), 0);
        x.reverse();
        Check.due("turned twice", x.ahead(2, true, 0), 1);
        Check.due("turned once", x.ahead(4, false, 0), 1);
        Check.due("the way stays", x.count(8), 1);
    }

    private static void soonestNow() {
        MuleSeasons x = Check.plainWithLaw("sh0;ml2;ml1;ml3;c", "y:1");
        Check.due("at first", x.soonest(0), 0);
        x.turn(1);
        Check.due("on its last DAY", x.soonest(0), 0);
        x.turn(1);
        Check.due("behind it", x.soonest(0), 4);
        Check.due("it is", x.soonest(1), 0);
        Check.due("with a DEAD MULE", Check.plainWithLaw("m;m;c", "y:0").soonest(0), 0);
    }

    private static void soonestEnds() {
        // Two DAYS a TURN pass over MONTH 1, which is one DAY long, each other year.
        MuleSeasons x = Check.plainWithLaw("sh0;ml3;ml1;ml1;c", "y:2");
        Check.due("passed over", x.soonest(1), 4);
        Check.due("met", x.soonest(2), 2);
        MuleSeasons y = Check.plainWithLaw("sh0;ml9;m;c", "y:9");
        Check.due("by one TURN", y.soonest(1), 1);
    }

    /** It stands still for 99 fed turns and for those in which the mule is more than one: 29. */
    private static final String STILL = "sf99h1m30;ml1;ml1;c";
    private static final String AT_LAST = "y:f>0?0;y:m>1?0;y:1";

    private static void soonestNever() {
        Twin.unchanged("the latest that can be", with(STILL, AT_LAST), x -> x.soonest(1), 129);
        Twin.unchanged("DEAD ahead of it", with("sf99h1m30;ml2;ml1;c", AT_LAST), x -> x.soonest(1), -1);
        Twin.unchanged("never", with("sh0;m;m;c", "y:0"), x -> x.soonest(1), -1);
        Twin.unchanged("never as a TURN ends", with("sh0;ml2;ml1;ml1;c", "y:2"), x -> x.soonest(2), -1);
        Twin.unchanged("63 of 72 DAYS", with("sh0;ml9;ml9;ml9;ml9;ml9;ml9;ml9;ml9;c", "y:1"), x -> x.soonest(7), 63);
        Twin.Maker back = () -> {
            MuleSeasons y = Check.plainWithLaw("sh0;ml1;ml9;ml9;ml9;ml9;ml9;ml9;ml9;c", "y:1");
            y.reverse();
            return y;
        };
        Twin.unchanged("the other way", back, x -> x.soonest(1), 55);
    }

    private static void soonestNoMonth() {
        int[] none = {-1, 3, 7, 8, Integer.MIN_VALUE, Integer.MAX_VALUE};
        for (int month : none) {
            Twin.unchanged("soonest(" + month + ")", with(PLAIN, "y:1"), x -> x.soonest(month), -1);
        }
        Twin.unchanged("soonest(2)", with(PLAIN, "y:1"), x -> x.soonest(2), 3);
        Twin.unchanged("no PLAIN", MuleSeasons::new, x -> x.soonest(0), -1);
    }

    private static void leastBounds() {
        Twin.Maker maker = with("sf0h0;ml9s1r1;ml9s1r1;ml9s1r1;ml9s1r1;ml9s1r1;ml9s1r1;ml9s1r1;ml9s1r1;cs60r60", "y:f");
        int[] none = {0, -1, 61, 62};
        for (int n : none) {
            Twin.unchanged("least(" + n + ")", maker, x -> x.least(n), -1);
        }
        for (int n : FAR) {
            Twin.unchanged("least(" + n + ")", maker, x -> x.least(n), -1);
        }
        Twin.unchanged("least(60)", maker, x -> x.least(60), 1);
        Twin.unchanged("least(59)", maker, x -> x.least(59), 2);
        Twin.unchanged("least(1)", with("sf0h0;ml9s1r1;m;cs3r3", "y:f"), x -> x.least(1), 3);
        Twin.unchanged("no PLAIN", MuleSeasons::new, x -> x.least(1), -1);
        Twin.unchanged("no PLAIN, 60", MuleSeasons::new, x -> x.least(60), -1);
    }

    private static void leastFeed() {
        Twin.unchanged("none more", with("sf0;m;m;cs3r3", "y:1"), x -> x.least(1), 0);
        Twin.unchanged("one more", with("sf0;m;m;cs3r3", "y:f>0?1;y:0"), x -> x.least(1), 1);
        Twin.unchanged("98 more", with("sf0;m;m;cs3r3", "y:f>97?1;y:0"), x -> x.least(1), 98);
        Twin.unchanged("99 more", with("sf0;m;m;cs3r3", "y:f>98?1;y:0"), x -> x.least(1), 99);
        Twin.unchanged("100 more", with("sf0;m;m;cs3r3", "y:f>99?1;y:0"), x -> x.least(1), -1);
        Twin.unchanged("the least of several", with("sf0;m;m;cs3r3", "y:f=7|f=9?1;y:0"), x -> x.least(1), 7);
    }

    private static void leastAbove() {
        Twin.unchanged("100", with("sf99;m;m;cs3r3", "y:f>99?1;y:0"), x -> x.least(1), 1);
        Twin.unchanged("198", with("sf99;m;m;cs3r3", "y:f>197?1;y:0"), x -> x.least(1), 99);
        Twin.unchanged("199", with("sf99;m;m;cs3r3", "y:f>198?1;y:0"), x -> x.least(1), -1);
    }

    private static void leastAll() {
        Twin.Maker two = with("sf0h0;ml9;m;cs3r3;cs6r6", "y:1+f/3");
        Twin.unchanged("both", two, x -> x.least(1), 3);
        Twin.unchanged("both by two TURNS", two, x -> x.least(2), 0);
        Twin.Maker oneIs = () -> {
            MuleSeasons x = two.make();
            x.turn(1);
            return x;
        };
        Twin.unchanged("one is, the other by one TURN", oneIs, x -> x.least(1), 0);
        Twin.Maker allAre = () -> {
            MuleSeasons x = two.make();
            x.turn(2);
            Check.addLaw(x, "y:0");
            return x;
        };
        Twin.unchanged("all are", allAre, x -> x.least(1), 0);
        Twin.unchanged("all are, for 60", allAre, x -> x.least(60), 0);
        Twin.unchanged("all are, for 0", allAre, x -> x.least(0), -1);
        Twin.unchanged("all are, for 61", allAre, x -> x.least(61), -1);
        Twin.Maker oneIsNot = () -> {
            MuleSeasons x = allAre.make();
            x.sow(0);
            return x;
        };
        Twin.unchanged("SOWN again, one is not", oneIsNot, x -> x.least(60), -1);
        Twin.unchanged("one of five is not", with("m;m;cs1r1;cs1r1;cs1r1;cs1r1;cs99", "y:1"), x -> x.least(1), -1);
    }

    private static void ripensBounds() {
        Twin.unchanged("200", with("sh0;ml1s0;ml1s0;ml1s1;cs67r0", "y:1"), x -> x.ripens(0), 200);
        Twin.unchanged("201", with("sh0;ml1s1;ml1s0;ml1s0;cs67r0", "y:1"), x -> x.ripens(0), -1);
        Twin.unchanged("199", with("sh0;ml1s0;ml1s1;ml1s0;cs67r0", "y:1"), x -> x.ripens(0), 199);
        Twin.unchanged("1", with("sh0;m;m;cs0r0", "y:1"), x -> x.ripens(0), 1);
        Twin.unchanged("never", with("sh0;m;m;cs0r0", "y:0"), x -> x.ripens(0), -1);
        MuleSeasons x = Check.plainWithLaw("sh0;m;m;cs3r3;cs6r6", "y:1");
        x.turn(1);
        Check.due("it is", x.ripens(0), 0);
        Check.due("the other one", x.ripens(1), 1);
        x.sow(0);
        Check.due("SOWN again", x.ripens(0), 1);
    }

    private static void ripensNoCrop() {
        int[] none = {-1, 2, 4, 5, Integer.MIN_VALUE, Integer.MAX_VALUE};
        for (int crop : none) {
            Twin.unchanged("ripens(" + crop + ")", with(PLAIN, "y:1"), x -> x.ripens(crop), -1);
        }
        Twin.unchanged("no PLAIN", MuleSeasons::new, x -> x.ripens(0), -1);
        Twin.unchanged("the fifth", with("sh0;m;m;c;c;c;c;cs3r3", "y:1"), x -> x.ripens(4), 1);
        Twin.unchanged("a sixth", with("sh0;m;m;c;c;c;c;cs3r3", "y:1"), x -> x.ripens(5), -1);
    }

    private static void oils(String name, Twin.Maker maker, int k, int n, int row, int value) {
        Twin.unchanged(name + ": the row", maker, x -> x.oil(k, n, 0), row);
        Twin.unchanged(name + ": VALUE", maker, x -> x.oil(k, n, 1), value);
    }

    private static void oilRows() {
        Twin.Maker maker = with("sh0;ml9;ml9;c", "y:g");
        int[] none = {0, -1, 4, 5, Integer.MIN_VALUE, Integer.MAX_VALUE};
        for (int k : none) {
            oils("k " + k, maker, k, 1, -1, -1);
        }
        oils("k 1", with("sh0;ml9;ml9;cs3r3", "y:g"), 1, 1, 0, 10);
        oils("k 2", with("sh0;ml9;ml9;cs6r6", "y:g"), 2, 1, 0, 10);
        oils("k 3", with("sh0;ml9;ml9;cs9r9", "y:g"), 3, 1, 0, 10);
        oils("k 3 is not enough", with("sh0;ml9;ml9;cs12r9", "y:g"), 3, 1, 0, 0);
    }

    private static void oilTurns() {
        Twin.Maker maker = with("sh0;ml9s1;ml9s1;ml9s1;ml9s1;ml9s1;cs40r0", "y:k=0&g=0?0;y:1");
        int[] none = {0, -1, 41, 42};
        for (int n : none) {
            oils("n " + n, maker, 1, n, -1, -1);
        }
        for (int n : FAR) {
            oils("n " + n, maker, 1, n, -1, -1);
        }
        oils("n 40", maker, 1, 40, 0, 10);
        oils("n 39", maker, 1, 39, 0, 0);
        oils("n 1", with("sh0;m;m;cs3r3v8", "y:g"), 1, 1, 0, 8);
    }

    private static void oilWhat() {
        int[] none = {-1, 2, Integer.MIN_VALUE, Integer.MAX_VALUE};
        for (int what : none) {
            Twin.unchanged("what " + what, plain(PLAIN), x -> x.oil(1, 1, what), -1);
        }
        for (int what = 0; what < 2; what++) {
            int asked = what;
            Twin.unchanged("no PLAIN", MuleSeasons::new, x -> x.oil(1, 1, asked), -1);
        }
    }

    private static void oilDigits() {
        // From MONTH 1 on it goes on if that one is greased, to MONTH 0, where it goes on if that one is.
        Twin.Maker maker = with("sh0;ml1s9;ml1s0;cs9r0", "y:g=0?0;y:1");
        oils("one of each", with("sh0;ml1s0;ml1s9;cs9r0", "y:k=1|g>0?1;y:0"), 2, 1, 0, 10);
        oils("both, rising", maker, 2, 2, 1, 10);
        oils("both and one, rising", maker, 3, 2, 1, 10);
        oils("one is not enough", maker, 1, 2, 0, 0);
        oils("none beyond the eighth", with("sh0;m;m;m;m;m;m;m;m;cs0r10", "y:3"), 1, 1, 0, 0);
        oils("none beyond the eighth", with("sh0;m;m;m;m;m;m;m;m;cs0r11", "y:3"), 3, 1, 0, 0);
        oils("none beyond the second", with("sh0;m;m;cs0r10", "y:3"), 2, 1, 0, 0);
        oils("the last MONTH alone", with("sh0;m;m;m;m;m;m;m;m;c", "y:k=7&g>0?9;y:k=0?1;y:0"), 1, 9, 0, 0);
        // The other way round MONTH 7 is the next one: one DAY of it, and nine behind it only if it is greased thrice.
        Twin.Maker last = () -> {
            MuleSeasons x = Check.plainWithLaw("sh0;m;m;m;m;m;m;m;ml1;cs25r25", "y:k=0?1;y:g*3");
            x.reverse();
            return x;
        };
        oils("the last MONTH", last, 1, 2, 0, 0);
        oils("the last MONTH thrice", last, 3, 2, 777, 10);
        Twin.Maker lastTwo = () -> {
            MuleSeasons x = Check.plainWithLaw("sh0;m;m;m;m;m;m;ml1;ml1;cs20r20", "y:k=0?2;y:g*3");
            x.reverse();
            return x;
        };
        oils("the last MONTH but one twice", lastTwo, 2, 2, 66, 10);
        oils("the last MONTH but one once", lastTwo, 1, 2, 0, 0);
    }

    private static void oilNine() {
        oils("from 9", with("sh0;ml9g9;m;cs3r3", "y:g>9?1;y:0"), 3, 3, 0, 0);
        oils("from 8 by three", with("sh0;ml9g8;m;cs3r3", "y:g=9?1;y:0"), 3, 1, 0, 10);
        oils("from 6 by three", with("sh0;ml9g6;m;cs3r3", "y:g=9?1;y:0"), 3, 1, 0, 10);
        oils("from 6 by two", with("sh0;ml9g6;m;cs3r3", "y:g=9?1;y:0"), 2, 1, 0, 0);
        oils("out of no PURSE", with("sh0p0;ml9;m;cs3r3", "y:g"), 1, 1, 0, 10);
    }

    private static void oilSeveral() {
        oils("none gets RIPE", with("sh0;m;m;m;m;m;m;m;m;c", "y:0"), 3, 9, 0, 0);
        oils("all by any", with("sh0;m;m;m;cs3r3v9", "y:1"), 2, 1, 0, 9);
        oils("two rows of three", with("sh0;ml9;m;m;cs3r3v6", "y:g=1?1;y:0"), 2, 1, 1, 6);
        oils("the row with more VALUE", with("sh0;ml9;m;m;cs3r3v6;cs6r6v1", "y:g"), 2, 1, 0, 7);
        oils("VALUE 0 is no more", with("sh0;ml9;m;m;cs3r3v0", "y:g=1?1;y:0"), 2, 1, 0, 0);
    }

    private static void oilValue() {
        // Those that are RIPE count no more; beyond 999 in the PURSE the VALUE is the same.
        Twin.Maker maker = () -> {
            MuleSeasons x = Check.plainWithLaw("sh0p99;ml9;ml9;cs3r3v99;cs6r6v99;cs6r6v98;cs6r6v97;cs6r6v96", "y:1");
            x.turn(1);
            return x;
        };
        oils("four of five", maker, 1, 1, 0, 99 + 98 + 97 + 96);
        Twin.Maker full = () -> {
            MuleSeasons x = Check.plainWithLaw("sh0p99;ml9;ml9;cs3r3v99;cs3r3v99;cs3r3v99;cs3r3v99;cs3r3v99", "y:1");
            for (int t = 0; t < 3; t++) {
                x.turn(1);
                for (int i = 0; i < 5; i++) {
                    x.sow(i);
                }
            }
            Check.due("PURSE", x.rule(3), 989);
            return x;
        };
        oils("all five by a full PURSE", full, 1, 1, 0, 495);
    }

    private static void games(String name, Twin.Maker maker, int one, int other, int n, int due) {
        Twin.unchanged(name + ", the one", maker, x -> x.game(one, other, n, 0, 0, 0), due);
        Twin.unchanged(name + ", the other", maker, x -> x.game(one, other, n, 0, 0, 1), due);
    }

    private static void gameMonths() {
        Twin.Maker maker = with("sh0;ml2;ml2;c", "y:4");
        games("both", maker, 0, 1, 3, 12);
        games("the other way round", maker, 1, 0, 3, 12);
        games("alike", maker, 0, 0, 3, HIDDEN);
        games("alike", maker, 1, 1, 3, HIDDEN);
        int[] none = {-1, 2, 7, 8, Integer.MIN_VALUE, Integer.MAX_VALUE};
        for (int month : none) {
            games("no such one " + month, maker, month, 1, 3, HIDDEN);
            games("no such other " + month, maker, 0, month, 3, HIDDEN);
            games("alike and no such " + month, maker, month, month, 3, HIDDEN);
        }
        games("no PLAIN", MuleSeasons::new, 0, 1, 3, HIDDEN);
    }

    private static void gameBounds() {
        Twin.Maker maker = with("sh0;ml2;ml2;c", "y:4");
        games("n 1", maker, 0, 1, 1, 4);
        games("n 40", maker, 0, 1, 40, 160);
        int[] none = {0, -1, 41, 42, Integer.MIN_VALUE, Integer.MAX_VALUE};
        for (int n : none) {
            games("n " + n, maker, 0, 1, n, HIDDEN);
        }
        Twin.unchanged("x 9", maker, x -> x.game(0, 1, 1, 9, 0, 0), 4 - 9);
        Twin.unchanged("y 9", maker, x -> x.game(0, 1, 1, 0, 9, 1), 4 - 9);
        Twin.unchanged("x 9 for the other", maker, x -> x.game(0, 1, 1, 9, 0, 1), 4);
        int[] gifts = {-1, 10, 11, Integer.MIN_VALUE, Integer.MAX_VALUE};
        for (int gift : gifts) {
            Twin.unchanged("x " + gift, maker, x -> x.game(0, 1, 1, gift, 0, 1), HIDDEN);
            Twin.unchanged("y " + gift, maker, x -> x.game(0, 1, 1, 0, gift, 0), HIDDEN);
        }
        int[] whats = {-1, 2, Integer.MIN_VALUE, Integer.MAX_VALUE};
        for (int what : whats) {
            Twin.unchanged("what " + what, maker, x -> x.game(0, 1, 1, 0, 0, what), HIDDEN);
        }
    }

    private static void gameAbove() {
        Twin.Maker maker = with("sh0f99p0;ml9;m;c", "y:f-112");
        Twin.unchanged("117 of FEED", maker, x -> x.game(0, 1, 1, 9, 9, 0), 10 - 9);
        Twin.unchanged("116 of FEED", maker, x -> x.game(0, 1, 1, 8, 9, 0), 8 - 8);
        Twin.unchanged("112 of FEED", maker, x -> x.game(0, 1, 1, 4, 9, 1), -9);
    }

    private static void gameHas() {
        Twin.Maker maker = with("sh0f0;ml2;ml3;ml1;c", "y:f");
        Twin.unchanged("no DAY", maker, x -> x.game(0, 1, 9, 0, 0, 0), 0);
        // Three DAYS: one of MONTH 0, two of MONTH 1.
        Twin.unchanged("the one", maker, x -> x.game(0, 1, 1, 2, 1, 0), 0);
        Twin.unchanged("the other", maker, x -> x.game(0, 1, 1, 2, 1, 1), 3);
        Twin.unchanged("none of the last MONTH", maker, x -> x.game(2, 0, 1, 1, 2, 0), -1);
        Twin.unchanged("the DAY that it is does not come", maker, x -> x.game(1, 0, 1, 1, 0, 1), 2);
    }

    private static void restsGame() {
        Twin.Maker maker = with("sh0;ml5;ml5;c", "y:0");
        Twin.unchanged("one", maker, x -> x.rests(0, 1, 1, -1), 1);
        Twin.unchanged("n 40", maker, x -> x.rests(0, 1, 40, -1), 1);
        int[] months = {-1, 2, 7, 8, Integer.MIN_VALUE, Integer.MAX_VALUE};
        for (int month : months) {
            Twin.unchanged("no such one " + month, maker, x -> x.rests(month, 1, 1, -1), -1);
            Twin.unchanged("no such other " + month, maker, x -> x.rests(0, month, 1, 0), -1);
        }
        Twin.unchanged("alike", maker, x -> x.rests(1, 1, 1, -1), -1);
        int[] turns = {0, -1, 41, Integer.MIN_VALUE, Integer.MAX_VALUE};
        for (int n : turns) {
            Twin.unchanged("n " + n, maker, x -> x.rests(0, 1, n, -1), -1);
            Twin.unchanged("n " + n, maker, x -> x.rests(0, 1, n, 0), -1);
        }
        Twin.unchanged("no PLAIN", MuleSeasons::new, x -> x.rests(0, 1, 1, -1), -1);
    }

    private static void restsRow() {
        // By nine of FEED nine DAYS come: four of the one, five of the other. All but nine of the one for four rest.
        Twin.Maker maker = with("sf0h0;ml5;ml9;c", "y:f>8?9;y:0");
        int[] due = {9, 18, 27, 36, 45, 54, 63, 72, 81};
        Twin.unchanged("how many", maker, x -> x.rests(0, 1, 1, -1), due.length);
        for (int i = 0; i < due.length; i++) {
            int asked = i;
            Twin.unchanged("rests " + asked, maker, x -> x.rests(0, 1, 1, asked), due[i]);
        }
        int[] none = {9, 10, 99, 100, -2, -3, Integer.MIN_VALUE, Integer.MAX_VALUE};
        for (int i : none) {
            Twin.unchanged("rests " + i, maker, x -> x.rests(0, 1, 1, i), -1);
        }
    }

    private static void restsEnds() {
        // Two DAYS by none at all are worth more than three by a gift of three.
        Twin.Maker none = with("sf0h0;ml9;m;c", "y:f=0?2;y:f=3?3;y:0");
        Twin.unchanged("how many", none, x -> x.rests(0, 1, 1, -1), 1);
        Twin.unchanged("none gives", none, x -> x.rests(0, 1, 1, 0), 0);
        // By 18 of FEED alone nine DAYS come to each of both.
        Twin.Maker all = with("sf0h0;ml9;ml9;c", "y:f>17?9;y:0");
        Twin.unchanged("how many", all, x -> x.rests(0, 1, 2, -1), 2);
        Twin.unchanged("none gives", all, x -> x.rests(0, 1, 2, 0), 0);
        Twin.unchanged("both give nine", all, x -> x.rests(0, 1, 2, 1), 99);
        Twin.unchanged("no third one", all, x -> x.rests(0, 1, 2, 2), -1);
        // By ten of FEED: neither can give them alone.
        Twin.Maker ten = with("sf0h0;ml9;ml9;c", "y:f>9?9;y:0");
        Twin.unchanged("how many", ten, x -> x.rests(0, 1, 2, -1), 10);
        Twin.unchanged("none gives", ten, x -> x.rests(0, 1, 2, 0), 0);
        for (int i = 1; i < 10; i++) {
            int asked = i;
            Twin.unchanged("ten together", ten, x -> x.rests(0, 1, 2, asked), 10 * i + 10 - i);
        }
        Twin.unchanged("no more", ten, x -> x.rests(0, 1, 2, 10), -1);
    }

    private static void restsNone() {
        // By three of FEED two DAYS of the one come, by four one of the other more: who gives gives less then.
        Twin.Maker maker = with("sf0h0;ml3;ml4;c", "y:f=4?3;y:f=3?2;y:0");
        Twin.unchanged("how many", maker, x -> x.rests(0, 1, 1, -1), 0);
        Twin.unchanged("the first one", maker, x -> x.rests(0, 1, 1, 0), -1);
    }

    private static void sharesBounds() {
        Twin.Maker maker = with("sh0;ml2;ml1;ml3;c", "y:1");
        int[] months = {-1, 3, 7, 8, Integer.MIN_VALUE, Integer.MAX_VALUE};
        for (int month : months) {
            Twin.unchanged("MONTH " + month, maker, x -> x.shares(month, 6, 60), -1);
        }
        int[] turns = {0, -1, 61, Integer.MIN_VALUE, Integer.MAX_VALUE};
        for (int n : turns) {
            Twin.unchanged("n " + n, maker, x -> x.shares(0, n, 60), -1);
        }
        int[] costs = {-1, 1000, Integer.MIN_VALUE, Integer.MAX_VALUE};
        for (int c : costs) {
            Twin.unchanged("c " + c, maker, x -> x.shares(0, 6, c), -1);
        }
        Twin.unchanged("n 1", maker, x -> x.shares(0, 1, 7), 7);
        Twin.unchanged("n 60", maker, x -> x.shares(2, 60, 60), 30);
        Twin.unchanged("c 0", maker, x -> x.shares(2, 60, 0), 0);
        Twin.unchanged("c 999", maker, x -> x.shares(2, 60, 999), 499);
        Twin.unchanged("no PLAIN", MuleSeasons::new, x -> x.shares(0, 1, 1), -1);
    }

    private static void sharesCut() {
        Twin.Maker maker = with("sh0;ml2;ml1;ml3;c", "y:1");
        Twin.unchanged("1 by 3", maker, x -> x.shares(1, 3, 2), 0);
        Twin.unchanged("3 by 3", maker, x -> x.shares(1, 3, 3), 1);
        Twin.unchanged("5 by 3", maker, x -> x.shares(1, 3, 5), 1);
        Twin.unchanged("no DAY of it", maker, x -> x.shares(2, 2, 999), 0);
        Twin.unchanged("none", with("m;m;c", "y:0"), x -> x.shares(0, 60, 999), 0);
        Twin.unchanged("none by the FEED it is", with("sf0h0;m;m;c", "y:f"), x -> x.shares(0, 60, 999), 0);
        Twin.unchanged("some by the FEED it is", with("sf1h0;m;m;c", "y:f"), x -> x.shares(0, 3, 999), 666);
        Twin.unchanged("most DAYS", with("sh0;ml9;ml9;c", "y:9"), x -> x.shares(1, 60, 999), 499);
    }

    private static void rideMonths() {
        Twin.Maker maker = with("sh0;ml2;ml1;ml3;c", "y:1");
        int[] none = {-1, 3, 7, 8, Integer.MIN_VALUE, Integer.MAX_VALUE};
        for (int month : none) {
            Twin.unchanged("from " + month, maker, x -> x.ride(month, 1), -1);
            Twin.unchanged("to " + month, maker, x -> x.ride(0, month), -1);
        }
        for (int month = 0; month < 3; month++) {
            int both = month;
            Twin.unchanged("alike", maker, x -> x.ride(both, both), -1);
        }
        Twin.unchanged("no PLAIN", MuleSeasons::new, x -> x.ride(0, 1), -1);
    }

    private static void rideFrom() {
        Twin.Maker maker = with("sh0;ml2;ml1;ml3;c", "y:1");
        Twin.unchanged("from now", maker, x -> x.ride(0, 1), 2);
        Twin.unchanged("from now on to the last one", maker, x -> x.ride(0, 2), 3);
        Twin.unchanged("from behind 2", maker, x -> x.ride(1, 2), 1);
        Twin.unchanged("from behind 2, round", maker, x -> x.ride(1, 0), 4);
        Twin.unchanged("from behind 3, round", maker, x -> x.ride(2, 1), 5);
        // It stays in the first one until the last TURN of all.
        Twin.unchanged("from now, 129 more", with(STILL, AT_LAST), x -> x.ride(0, 1), 129);
        Twin.unchanged("from behind 129", with(STILL, AT_LAST), x -> x.ride(1, 0), -1);
        String late = "y:f>0?0;y:m>2?0;y:1";
        Twin.unchanged("from behind 128, 1 more", with(STILL, late), x -> x.ride(1, 0), 1);
    }

    private static void rideNever() {
        Twin.Maker maker = with("sh0;ml2;ml1;ml1;c", "y:2");
        Twin.unchanged("never the other one", maker, x -> x.ride(0, 2), -1);
        Twin.unchanged("never the one", maker, x -> x.ride(2, 0), -1);
        Twin.unchanged("both", maker, x -> x.ride(1, 0), 1);
        Twin.unchanged("it stands still", with("m;m;c", "y:0"), x -> x.ride(0, 1), -1);
    }

    private static void neverBounds() {
        Twin.Maker maker = with("sh0;ml9;ml9;ml9;ml9;ml9;ml9;ml6;ml9;c", "y:1");
        int[] none = {0, -1, 61, Integer.MIN_VALUE, Integer.MAX_VALUE};
        for (int n : none) {
            Twin.unchanged("never(" + n + ")", maker, x -> x.never(n), -1);
        }
        Twin.unchanged("never(60)", maker, x -> x.never(60), 0);
        Twin.unchanged("never(59)", maker, x -> x.never(59), 128);
        Twin.unchanged("never(53)", maker, x -> x.never(53), 192);
        Twin.unchanged("never(1)", maker, x -> x.never(1), 254);
        Twin.unchanged("no PLAIN", MuleSeasons::new, x -> x.never(1), -1);
    }

    private static void neverDays() {
        Twin.unchanged("no DAY of any", with("m;m;m;m;m;m;m;m;c", "y:0"), x -> x.never(60), 255);
        Twin.unchanged("no DAY by the FEED it is", with("sf0h0;m;m;c", "y:f"), x -> x.never(60), 3);
        Twin.unchanged("a DAY by the FEED it is", with("sf1h0;m;m;c", "y:f"), x -> x.never(2), 2);
        Twin.unchanged("none is missed", with("ml1;ml1;c", "y:2"), x -> x.never(1), 0);
        Twin.unchanged("the DAY that it is", with("ml1;ml1;c", "y:1"), x -> x.never(1), 1);
        Twin.unchanged("passed over it came", with("ml1;ml1;ml1;c", "y:2"), x -> x.never(1), 1);
    }

    private static void oddsBounds() {
        Twin.Maker maker = plain("sm1;m;m;c");
        int[] turns = {-1, 31, 32, Integer.MIN_VALUE, Integer.MAX_VALUE};
        for (int n : turns) {
            Twin.unchanged("n " + n, maker, x -> x.odds(n, 50), -1);
            Twin.unchanged("price, n " + n, maker, x -> x.price(n, 50, 10), -1);
        }
        int[] chances = {-1, 101, 102, Integer.MIN_VALUE, Integer.MAX_VALUE};
        for (int chance : chances) {
            Twin.unchanged("chance " + chance, maker, x -> x.odds(1, chance), -1);
            Twin.unchanged("price, chance " + chance, maker, x -> x.price(1, chance, 10), -1);
        }
        Twin.unchanged("n 0", maker, x -> x.odds(0, 100), 1000000000);
        Twin.unchanged("n 1", maker, x -> x.odds(1, 100), 0);
        Twin.unchanged("chance 0", maker, x -> x.odds(30, 0), 1000000000);
        Twin.unchanged("chance 1", maker, x -> x.odds(1, 1), 990000000);
        Twin.unchanged("chance 99", maker, x -> x.odds(1, 99), 10000000);
        Twin.unchanged("no PLAIN", MuleSeasons::new, x -> x.odds(0, 0), -1);
        Twin.unchanged("price, no PLAIN", MuleSeasons::new, x -> x.price(0, 0, 1), -1);
    }

    private static void oddsCut() {
        // 10 to the 9 by 0.99 four times is 960,596,010 whole; the fifth loses 9,605,960 of 9,605,960.1.
        long[] due = {990000000L, 980100000L, 970299000L, 960596010L, 950990050L};
        for (int n = 1; n <= 5; n++) {
            int turns = n;
            Twin.unchanged("n " + n, plain("sm1;m;m;c"), x -> x.odds(turns, 1), due[n - 1]);
        }
        // Thirty halves: 1 is left, and loses nothing more.
        Twin.unchanged("29 halves", plain("sm1;m;m;c"), x -> x.odds(29, 50), 2);
        Twin.unchanged("30 halves", plain("sm1;m;m;c"), x -> x.odds(30, 50), 1);
        // 1,000,000,000 by 0.01 nine times is below one: all but nothing is lost, and that cut.
        long left = 1000000000L;
        for (int n = 1; n <= 30; n++) {
            left -= left * 99 / 100;
            int turns = n;
            Twin.unchanged("99 of 100, n " + n, plain("sm1;m;m;c"), x -> x.odds(turns, 99), left);
        }
    }

    private static void oddsMule() {
        Twin.Maker dead = () -> {
            MuleSeasons x = Check.plain("sm1f0h1;m;m;c");
            x.turn(1);
            return x;
        };
        Twin.unchanged("DEAD", dead, x -> x.odds(0, 0), 0);
        Twin.unchanged("DEAD for 30", dead, x -> x.odds(30, 50), 0);
        Twin.unchanged("price of DEAD", dead, x -> x.price(0, 0, 999), 999);
        Twin.unchanged("30 by 29", plain("sm30;m;m;c"), x -> x.odds(29, 100), 1000000000);
        Twin.unchanged("30 by 30", plain("sm30;m;m;c"), x -> x.odds(30, 100), 0);
        Twin.unchanged("whatever it eats", plain("sm2f0h9;m;m;c"), x -> x.odds(1, 100), 1000000000);
        Twin.unchanged("two halves of two", plain("sm2;m;m;c"), x -> x.odds(2, 50), 750000000);
        // Of two: 490 and 420 of 1,000 are left by 2 and by 1 behind two TURNS of 30 by 100.
        Twin.unchanged("30 by 100 of two", plain("sm2;m;m;c"), x -> x.odds(2, 30), 910000000);
        Twin.unchanged("and one TURN more", plain("sm2;m;m;c"), x -> x.odds(3, 30), 784000000);
    }

    private static void priceBounds() {
        Twin.Maker maker = plain("sm1;m;m;c");
        int[] none = {0, -1, 1000, 1001, Integer.MIN_VALUE, Integer.MAX_VALUE};
        for (int c : none) {
            Twin.unchanged("c " + c, maker, x -> x.price(1, 50, c), -1);
        }
        Twin.unchanged("c 1", maker, x -> x.price(1, 100, 1), 1);
        Twin.unchanged("c 999", maker, x -> x.price(1, 100, 999), 999);
        Twin.unchanged("n 0", maker, x -> x.price(0, 100, 999), 0);
        Twin.unchanged("n 30", maker, x -> x.price(30, 100, 999), 999);
        Twin.unchanged("chance 0", maker, x -> x.price(30, 0, 999), 0);
    }

    private static void priceUp() {
        Twin.Maker maker = plain("sm1;m;m;c");
        Twin.unchanged("50 of 100", maker, x -> x.price(1, 50, 100), 50);
        Twin.unchanged("50.5 of 101", maker, x -> x.price(1, 50, 101), 51);
        Twin.unchanged("0.01", maker, x -> x.price(1, 1, 1), 1);
        Twin.unchanged("1", maker, x -> x.price(1, 1, 100), 1);
        Twin.unchanged("1.01", maker, x -> x.price(1, 1, 101), 2);
        // Nine times 10 of 100: one of 10 to the 9 parts.
        Twin.unchanged("by one part", plain("sm9;m;m;c"), x -> x.price(9, 10, 1), 1);
        Twin.unchanged("its odds", plain("sm9;m;m;c"), x -> x.odds(9, 10), 999999999);
        Twin.unchanged("by none", plain("sm10;m;m;c"), x -> x.price(9, 10, 999), 0);
        Twin.unchanged("all but one part", maker, x -> x.price(30, 50, 999), 999);
        Twin.unchanged("all but two parts", maker, x -> x.price(29, 50, 1), 1);
    }

    private static void lastsBounds() {
        Twin.unchanged("the longest", plain("sm30f99h1;m;m;c"), x -> x.lasts(), 129);
        Twin.unchanged("one by one", plain("sm1f0h1;m;m;c"), x -> x.lasts(), 1);
        Twin.unchanged("just enough for one", plain("sm1f1h1;m;m;c"), x -> x.lasts(), 2);
        Twin.unchanged("for ever", plain("sm1f0h0;m;m;c"), x -> x.lasts(), -1);
        Twin.unchanged("a rest of FEED is lost", plain("sm2f10h9;m;m;c"), x -> x.lasts(), 3);
        Twin.unchanged("DEAD", () -> {
            MuleSeasons x = Check.plain("sm1f0h1;m;m;c");
            x.turn(1);
            return x;
        }, x -> x.lasts(), 0);
    }

    private static void lastsNoPlain() {
        Twin.unchanged("lasts()", MuleSeasons::new, x -> x.lasts(), -1);
    }
}
