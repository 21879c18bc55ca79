/** Promises 23 to 31, 34, 38, 39 and 42: what is asked apart from as it is now. */
public final class ForecastTests {
    private static final String PLAIN = "sm12f5h2p9;ml2s5r1p2;ml3s1r4p3;ml1g3;cs10r5v7;cs99v40";

    public static void main(String[] args) {
        Check.test("23 ahead", ForecastTests::ahead);
        Check.test("24 soonest", ForecastTests::soonest);
        Check.test("25 least", ForecastTests::least);
        Check.test("26 ripens", ForecastTests::ripens);
        Check.test("27 oil", ForecastTests::oil);
        Check.test("27 oil: of several the least row", ForecastTests::oilOfSeveral);
        Check.test("28 game", ForecastTests::game);
        Check.test("29 rests", ForecastTests::rests);
        Check.test("30 shares", ForecastTests::shares);
        Check.test("31 ride", ForecastTests::ride);
        Check.test("34 never", ForecastTests::never);
        Check.test("38 odds", ForecastTests::odds);
        Check.test("39 price", ForecastTests::price);
        Check.test("42 lasts", ForecastTests::lasts);
        Check.test("apart: nothing is changed", ForecastTests::nothingChanged);
        Check.end();
    }

    private static void ahead() {
        MuleSeasons x = Check.plainWithLaw("sh0;ml2;ml1;ml3;c", "y:1");
        int[] months = {0, 0, 1, 2, 2, 2, 0};
        int[] days = {0, 1, 0, 0, 1, 2, 0};
        int[] monthsOther = {0, 2, 2, 2, 1, 0, 0};
        int[] daysOther = {0, 2, 1, 0, 0, 1, 0};
        for (int n = 0; n < 7; n++) {
            Check.due("MONTH behind " + n, x.ahead(n, false, 0), months[n]);
            Check.due("DAY behind " + n, x.ahead(n, false, 1), days[n]);
            Check.due("MONTH the other way behind " + n, x.ahead(n, true, 0), monthsOther[n]);
            Check.due("DAY the other way behind " + n, x.ahead(n, true, 1), daysOther[n]);
        }
        x.reverse();
        Check.due("as it is now", x.ahead(1, false, 0), 2);
        Check.due("as it was", x.ahead(2, true, 0), 1);
        Check.due("ahead(60)", x.ahead(60, false, 0), 0);
        Check.due("ahead(61)", x.ahead(61, false, 0), -1);
        Check.due("ahead(-1)", x.ahead(-1, false, 0), -1);
        Check.due("no such what", x.ahead(1, false, 2), -1);
        Check.due("no such what", x.ahead(1, false, -1), -1);
        Check.due("no plain", new MuleSeasons().ahead(0, false, 0), -1);
    }

    private static void soonest() {
        MuleSeasons x = Check.plainWithLaw("sh0;ml9;ml9;ml9;c", "y:1");
        Check.due("it is", x.soonest(0), 0);
        Check.due("nine", x.soonest(1), 9);
        Check.due("eighteen", x.soonest(2), 18);
        x.turn(10);
        Check.due("17 from now", x.soonest(0), 17);
        Check.due("soonest(3)", x.soonest(3), -1);
        Check.due("soonest(-1)", x.soonest(-1), -1);
        // Two days a turn pass over a month of one day for ever.
        MuleSeasons y = Check.plainWithLaw("sh0;ml2;ml1;ml1;c", "y:2");
        Check.due("never as a turn ends", y.soonest(2), -1);
        Check.due("one", y.soonest(1), 1);
        // The mule stands still while there is feed: 99 turns; then it goes one day a turn.
        MuleSeasons z = Check.plainWithLaw("sf99h1;ml1;m;c", "y:f>0?0;y:1");
        Check.due("behind 99 turns and one", z.soonest(1), 100);
        MuleSeasons w = Check.plainWithLaw("sm30f99h1;ml9;m;ml9;m;ml9;m;c", "y:f>0?0;y:1");
        Check.due("behind 99 and 24", w.soonest(4), 99 + 24);
        Check.due("behind 99 and 30, the last day but it is dead then", w.soonest(5), -1);
        Check.due("no plain", new MuleSeasons().soonest(0), -1);
    }

    private static void least() {
        MuleSeasons x = Check.plainWithLaw("sm1f0h1;ml9s1r1;m;cs5r5;cs1r1", "y:1");
        Check.due("four fed turns and the one it starves in", x.least(5), 4);
        Check.due("too few turns", x.least(4), -1);
        Check.due("least(60)", x.least(60), 4);
        Check.due("least(0)", x.least(0), -1);
        Check.due("least(61)", x.least(61), -1);
        Check.due("no plain", new MuleSeasons().least(1), -1);
        Check.due("above 99 together", Check.plainWithLaw("sf99;ml9;m;cs9r9", "y:f>150?9;y:0").least(1), 52);
        Check.due("99", Check.plainWithLaw("sf0;ml9;m;cs3r3", "y:f>98?1;y:0").least(1), 99);
        Check.due("99 are not enough", Check.plainWithLaw("sf0;ml9;m;cs3r3", "y:f>99?1;y:0").least(1), -1);
        Check.due("just these", Check.plainWithLaw("sf0;ml9;m;cs3r3", "y:f=7?1;y:0").least(1), 7);
        MuleSeasons y = Check.plainWithLaw("sf9h0;ml9;m;cs3r3;cs6r6", "y:f>9?1;y:0");
        Check.due("two turns", y.least(2), 1);
        Check.due("one turn", y.least(1), -1);
        y.hay(1);
        y.turn(1);
        Check.due("one that is RIPE counts, too", y.least(1), 0);
        y.turn(1);
        Check.due("all are", y.least(1), 0);
    }

    private static void ripens() {
        MuleSeasons x = Check.plainWithLaw("sh0;ml9s2r3;m;cs10r5;cs5r12;cs0r0", "y:1");
        Check.due("by the sun", x.ripens(0), 5);
        Check.due("by the rain", x.ripens(1), 4);
        Check.due("by a day", x.ripens(2), 1);
        x.turn(1);
        Check.due("it is", x.ripens(2), 0);
        Check.due("four more", x.ripens(0), 4);
        Check.due("ripens(3)", x.ripens(3), -1);
        Check.due("ripens(-1)", x.ripens(-1), -1);
        Check.due("no plain", new MuleSeasons().ripens(0), -1);
        Check.due("200", Check.plainWithLaw("sh0;ml1s0;ml1s0;ml1s1;cs67r0", "y:1").ripens(0), 200);
        Check.due("201", Check.plainWithLaw("sh0;ml1s1;ml1s0;ml1s0;cs67r0", "y:1").ripens(0), -1);
    }

    private static void oils(MuleSeasons x, int k, int n, int row, int value) {
        Check.due("row for " + k + ", " + n, x.oil(k, n, 0), row);
        Check.due("VALUE for " + k + ", " + n, x.oil(k, n, 1), value);
    }

    private static void oil() {
        MuleSeasons x = Check.plainWithLaw("sp0;ml1g1s0r0;ml9s1r1;ml9;cs3r3v6;cs2r2v9;cs5r5v50", "y:g");
        oils(x, 1, 1, 0, 9);
        oils(x, 1, 3, 1, 15);
        oils(x, 2, 3, 11, 65);
        oils(x, 3, 3, 1, 65);
        oils(x, 3, 1, 0, 15);
        Check.due("no such what", x.oil(1, 1, 2), -1);
        Check.due("no such what", x.oil(1, 1, -1), -1);
        Check.due("oil(0, 1)", x.oil(0, 1, 0), -1);
        Check.due("oil(4, 1)", x.oil(4, 1, 0), -1);
        Check.due("oil(1, 0)", x.oil(1, 0, 0), -1);
        Check.due("oil(1, 41)", x.oil(1, 41, 0), -1);
        Check.due("oil(1, 40)", x.oil(1, 40, 1), 65);
        Check.due("no plain", new MuleSeasons().oil(1, 1, 0), -1);
        x.turn(1);
        x.grease(1);
        MuleSeasons y = Check.plainWithLaw("ml9g1;m;cs3r3v6;cs6r6v9", "y:g");
        y.turn(1);
        oils(y, 1, 1, 0, 9);
    }

    private static void oilOfSeveral() {
        MuleSeasons x = Check.plainWithLaw("ml9;m;m;m;m;m;m;m;cs3r3v6", "y:0");
        for (int k = 1; k <= 3; k++) {
            oils(x, k, 9, 0, 0);
        }
        oils(Check.plainWithLaw("ml9g9;m;cs3r3v6", "y:g>9?5;y:0"), 3, 2, 0, 0);
        oils(Check.plainWithLaw("ml9g8;m;cs3r3v6", "y:g=9?1;y:0"), 3, 1, 0, 6);
        // Once greased it goes, twice it does not.
        oils(Check.plainWithLaw("ml9;m;m;cs3r3v6", "y:g=1?1;y:0"), 2, 1, 1, 6);
        oils(Check.plainWithLaw("ml9;m;m;cs3r3v6", "y:g=1?1;y:0"), 3, 1, 11, 6);
        // Month 7 is greased thrice: from month 0 the other way round it is the next one.
        MuleSeasons y = Check.plainWithLaw("ml1;m;m;m;m;m;m;ml9;cs25r25v6", "y:k=0?1;y:g*3");
        y.reverse();
        oils(y, 3, 2, 777, 6);
    }

    private static void games(MuleSeasons x, int n, int a, int b, int one, int other) {
        Check.due("the one by " + a + ", " + b, x.game(0, 1, n, a, b, 0), one);
        Check.due("the other by " + a + ", " + b, x.game(0, 1, n, a, b, 1), other);
        Check.due("told the other way round", x.game(1, 0, n, b, a, 0), other);
    }

    private static void game() {
        MuleSeasons x = Check.plainWithLaw("sf0h0p0;ml5;ml5;c", "y:f");
        games(x, 4, 0, 0, 0, 0);
        games(x, 4, 1, 0, 7, 0);
        games(x, 4, 0, 1, 8, -1);
        games(x, 4, 2, 1, 12, 9);
        games(x, 1, 9, 9, -1, 1);
        games(Check.plainWithLaw("sf99h0;ml5;ml5;c", "y:f-110"), 1, 9, 9, 8 - 9, 6 - 9);
        Check.due("alike", x.game(0, 0, 4, 0, 0, 0), -1000000);
        Check.due("no such one", x.game(2, 0, 4, 0, 0, 0), -1000000);
        Check.due("no such other", x.game(0, 2, 4, 0, 0, 0), -1000000);
        Check.due("no such one", x.game(-1, 0, 4, 0, 0, 0), -1000000);
        Check.due("n 0", x.game(0, 1, 0, 0, 0, 0), -1000000);
        Check.due("n 41", x.game(0, 1, 41, 0, 0, 0), -1000000);
        Check.due("n 40", x.game(0, 1, 40, 0, 0, 0), 0);
        Check.due("x 10", x.game(0, 1, 4, 10, 0, 0), -1000000);
        Check.due("x -1", x.game(0, 1, 4, -1, 0, 0), -1000000);
        Check.due("y 10", x.game(0, 1, 4, 0, 10, 0), -1000000);
        Check.due("y -1", x.game(0, 1, 4, 0, -1, 0), -1000000);
        Check.due("no such what", x.game(0, 1, 4, 0, 0, 2), -1000000);
        Check.due("no such what", x.game(0, 1, 4, 0, 0, -1), -1000000);
        Check.due("no plain", new MuleSeasons().game(0, 1, 4, 0, 0, 0), -1000000);
    }

    private static void rests() {
        // Nothing that is given moves it: nobody gives.
        MuleSeasons x = Check.plainWithLaw("ml5;ml5;c", "y:0");
        Check.due("one", x.rests(0, 1, 4, -1), 1);
        Check.due("none gives", x.rests(0, 1, 4, 0), 0);
        Check.due("no second one", x.rests(0, 1, 4, 1), -1);
        // From 3 of feed on nine days of the one alone come: any who give 3 together.
        MuleSeasons y = Check.plainWithLaw("sf0h0;ml9;ml9;m;c", "y:f>2?8;y:0");
        Check.due("the one gives three", y.rests(0, 2, 1, 0), 30);
        Check.due("that alone", y.rests(0, 2, 1, -1), 1);
        // Days of both: the rests are those in which they give three together.
        MuleSeasons z = Check.plainWithLaw("sf0h0;ml4;ml9;c", "y:f>2?8;y:0");
        Check.due("four", z.rests(0, 1, 1, -1), 4);
        int[] want = {3, 12, 21, 30};
        for (int i = 0; i < 4; i++) {
            Check.due("rests " + i, z.rests(0, 1, 1, i), want[i]);
        }
        Check.due("no fifth one", z.rests(0, 1, 1, 4), -1);
        Check.due("i -2", z.rests(0, 1, 1, -2), -1);
        Check.due("alike", z.rests(0, 0, 1, -1), -1);
        Check.due("no such one", z.rests(0, 2, 1, -1), -1);
        Check.due("n 41", z.rests(0, 1, 41, -1), -1);
        Check.due("n 0", z.rests(0, 1, 0, -1), -1);
        Check.due("no plain", new MuleSeasons().rests(0, 1, 1, -1), -1);
        // A day is worth the two that are given for it: so it rests with and without them.
        MuleSeasons w = Check.plainWithLaw("sf0h0;ml9;ml9;c", "y:f>1?1;y:0");
        Check.due("two", w.rests(0, 1, 1, -1), 2);
        Check.due("none gives", w.rests(0, 1, 1, 0), 0);
        Check.due("the one gives two", w.rests(0, 1, 1, 1), 20);
        // The one wants an even number together, the other an odd one: no rest.
        MuleSeasons v = Check.plainWithLaw("sf0h0;ml1;ml1;ml9;c", "y:f-f/2*2=0?3;y:1");
        v.turn(1);
        allRests(v, 2, 1, 1);
        allRests(v, 0, 1, 9);
        allRests(Check.plainWithLaw("sf0h1m3;ml2;ml1;ml3;c", "y:f*2/3"), 0, 2, 7);
    }

    /** All rests again, from what GAME answers. */
    private static void allRests(MuleSeasons x, int one, int other, int n) {
        int found = 0;
        for (int a = 0; a < 10; a++) {
            for (int b = 0; b < 10; b++) {
                boolean rest = true;
                for (int c = 0; c < 10; c++) {
                    rest &= x.game(one, other, n, c, b, 0) <= x.game(one, other, n, a, b, 0);
                    rest &= x.game(one, other, n, a, c, 1) <= x.game(one, other, n, a, b, 1);
                }
                if (rest) {
                    Check.due("rests " + found, x.rests(one, other, n, found), 10 * a + b);
                    found++;
                }
            }
        }
        Check.due("how many", x.rests(one, other, n, -1), found);
    }

    private static void shares() {
        MuleSeasons x = Check.plainWithLaw("ml2;ml1;ml3;c", "y:1");
        Check.due("two of six", x.shares(0, 6, 100), 33);
        Check.due("one of six", x.shares(1, 6, 100), 16);
        Check.due("three of six", x.shares(2, 6, 100), 50);
        Check.due("one of one", x.shares(0, 1, 999), 999);
        Check.due("none of one", x.shares(2, 1, 999), 0);
        Check.due("of nothing", x.shares(0, 6, 0), 0);
        Check.due("n 60", x.shares(0, 60, 600) > 0, true);
        Check.due("n 61", x.shares(0, 61, 1), -1);
        Check.due("n 0", x.shares(0, 0, 1), -1);
        Check.due("c 1000", x.shares(0, 1, 1000), -1);
        Check.due("c -1", x.shares(0, 1, -1), -1);
        Check.due("shares(3)", x.shares(3, 1, 1), -1);
        Check.due("shares(-1)", x.shares(-1, 1, 1), -1);
        Check.due("none come", Check.plainWithLaw("m;m;c", "y:0").shares(0, 60, 999), 0);
        Check.due("no plain", new MuleSeasons().shares(0, 1, 1), -1);
    }

    private static void ride() {
        MuleSeasons x = Check.plainWithLaw("sh0;ml2;ml1;ml3;c", "y:1");
        Check.due("from now", x.ride(0, 1), 2);
        Check.due("from behind two", x.ride(1, 2), 1);
        Check.due("round", x.ride(2, 0), 3);
        Check.due("round", x.ride(1, 0), 4);
        x.turn(4);
        Check.due("from now in the midst", x.ride(2, 0), 2);
        Check.due("round, from behind two", x.ride(0, 1), 2);
        Check.due("alike", x.ride(1, 1), -1);
        Check.due("ride(0, 3)", x.ride(0, 3), -1);
        Check.due("ride(3, 0)", x.ride(3, 0), -1);
        Check.due("ride(-1, 0)", x.ride(-1, 0), -1);
        MuleSeasons y = Check.plainWithLaw("sh0;ml2;ml1;ml1;c", "y:2");
        Check.due("never the other one", y.ride(0, 2), -1);
        Check.due("never the one", y.ride(2, 0), -1);
        Check.due("both", y.ride(1, 0), 1);
        Check.due("no plain", new MuleSeasons().ride(0, 1), -1);
    }

    private static void never() {
        MuleSeasons x = Check.plainWithLaw("ml2;ml1;ml3;c", "y:1");
        Check.due("one day", x.never(1), 6);
        Check.due("two", x.never(2), 4);
        Check.due("three", x.never(3), 0);
        Check.due("never(60)", x.never(60), 0);
        Check.due("never(61)", x.never(61), -1);
        Check.due("never(0)", x.never(0), -1);
        Check.due("no day at all", Check.plainWithLaw("m;m;m;m;m;m;m;m;c", "y:0").never(1), 255);
        Check.due("the day that it is does not come", Check.plainWithLaw("ml1;ml9;c", "y:1").never(1), 1);
        Check.due("no plain", new MuleSeasons().never(1), -1);
    }

    private static void odds() {
        MuleSeasons x = Check.plain("sm1f0h1;m;m;c");
        Check.due("behind none", x.odds(0, 100), 1000000000);
        Check.due("a half", x.odds(1, 50), 500000000);
        Check.due("a quarter", x.odds(2, 50), 250000000);
        Check.due("cut", x.odds(6, 33), 90458383);
        Check.due("sure", x.odds(1, 100), 0);
        Check.due("never", x.odds(30, 0), 1000000000);
        Check.due("n 31", x.odds(31, 0), -1);
        Check.due("n -1", x.odds(-1, 0), -1);
        Check.due("chance 101", x.odds(1, 101), -1);
        Check.due("chance -1", x.odds(1, -1), -1);
        Check.due("of two", Check.plain("sm2;m;m;c").odds(2, 50), 750000000);
        Check.due("of three", Check.plain("sm3;m;m;c").odds(4, 50), 687500000);
        Check.due("of thirty", Check.plain("sm30;m;m;c").odds(30, 100), 0);
        Check.due("of thirty", Check.plain("sm30;m;m;c").odds(29, 100), 1000000000);
        x.turn(1);
        Check.due("DEAD", x.odds(0, 0), 0);
        Check.due("no plain", new MuleSeasons().odds(0, 0), -1);
    }

    private static void price() {
        MuleSeasons x = Check.plain("sm1f0h1;m;m;c");
        Check.due("rounded up", x.price(1, 50, 7), 4);
        Check.due("even", x.price(1, 50, 8), 4);
        Check.due("three quarters", x.price(2, 50, 4), 3);
        Check.due("no risk", x.price(30, 0, 999), 0);
        Check.due("a small risk", x.price(1, 1, 1), 1);
        Check.due("sure", x.price(1, 100, 999), 999);
        Check.due("c 0", x.price(1, 50, 0), -1);
        Check.due("c 1000", x.price(1, 50, 1000), -1);
        Check.due("n 31", x.price(31, 50, 1), -1);
        Check.due("n -1", x.price(-1, 50, 1), -1);
        Check.due("chance 101", x.price(1, 101, 1), -1);
        Check.due("chance -1", x.price(1, -1, 1), -1);
        x.turn(1);
        Check.due("DEAD", x.price(0, 0, 12), 12);
        Check.due("no plain", new MuleSeasons().price(0, 0, 1), -1);
    }

    private static void lasts() {
        Check.due("two fed, twelve not", Check.plain(PLAIN).lasts(), 14);
        Check.due("for ever", Check.plain("sf0h0;m;m;c").lasts(), -1);
        Check.due("longest", Check.plain("sm30f99h1;m;m;c").lasts(), 129);
        MuleSeasons x = Check.plain("sm1f0h1;m;m;c");
        Check.due("one", x.lasts(), 1);
        x.turn(1);
        Check.due("DEAD", x.lasts(), 0);
        Check.due("no plain", new MuleSeasons().lasts(), -1);
    }

    private static void nothingChanged() {
        MuleSeasons x = Check.plain(PLAIN);
        x.turn(2);
        x.ahead(60, true, 0);
        x.soonest(2);
        x.least(60);
        x.ripens(1);
        x.oil(3, 40, 0);
        x.game(0, 1, 40, 9, 9, 0);
        x.rests(0, 1, 40, 0);
        x.shares(0, 60, 999);
        x.ride(0, 2);
        x.never(60);
        x.who(5, 0);
        x.best(5);
        x.odds(30, 50);
        x.lasts();
        int[] want = {3, 2, 0, 0, -1, 2, 1, 2, 0, 0, 4, 0, 0, 0, 2, 2};
        for (int what = 0; what < 16; what++) {
            Check.due("count(" + what + ")", x.count(what), want[what]);
        }
        Check.due("FEED", x.rule(1), 1);
        Check.due("MULE", x.rule(0), 12);
        Check.due("PURSE", x.rule(3), 9);
        Check.due("GREASE", x.month(0, 1), 0);
        Check.due("SUN got", x.crop(1, 3), 8);
    }
}
