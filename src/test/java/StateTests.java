/** Promises 6 to 8, 20, 22, 32, 33, 40, 41 and 45: how it is as it is now. */
public final class StateTests {
    private static final String PLAIN = "sm12f5h2p9;ml2s5r1p2;ml3s1r4p3;ml1g3;cs10r5v7;cs99v40";

    public static void main(String[] args) {
        Check.test("6 rule", StateTests::rules);
        Check.test("7 month", StateTests::months);
        Check.test("8 crop", StateTests::crops);
        Check.test("8 crop: 999 at most", StateTests::cropsHeld);
        Check.test("20 status", StateTests::status);
        Check.test("22 log", StateTests::log);
        Check.test("22 log: the latest sixty", StateTests::longLog);
        Check.test("32 level", StateTests::level);
        Check.test("33 year", StateTests::year);
        Check.test("40 most", StateTests::most);
        Check.test("40 most: of several the lowest", StateTests::mostOfSeveral);
        Check.test("41 worths", StateTests::worths);
        Check.test("45 count", StateTests::count);
        Check.end();
    }

    private static void rules() {
        MuleSeasons x = Check.plain(PLAIN);
        Check.due("MULE", x.rule(0), 12);
        Check.due("FEED", x.rule(1), 5);
        Check.due("HAY", x.rule(2), 2);
        Check.due("PURSE", x.rule(3), 9);
        Check.due("rule(4)", x.rule(4), -1);
        Check.due("rule(-1)", x.rule(-1), -1);
        x.turn(3);
        Check.due("MULE, one less", x.rule(0), 11);
        Check.due("FEED, eaten", x.rule(1), 0);
        Check.due("PURSE, with 7", x.rule(3), 16);
        x.hay(4);
        Check.due("FEED, fed", x.rule(1), 4);
    }

    private static void months() {
        MuleSeasons x = Check.plain(PLAIN);
        int[][] want = {{2, 0, 5, 1, 2}, {3, 0, 1, 4, 3}, {1, 3, 3, 3, 4}};
        for (int m = 0; m < 3; m++) {
            for (int what = 0; what < 5; what++) {
                Check.due("month(" + m + ", " + what + ")", x.month(m, what), want[m][what]);
            }
        }
        Check.due("month(3, 0)", x.month(3, 0), -1);
        Check.due("month(-1, 0)", x.month(-1, 0), -1);
        Check.due("month(0, 5)", x.month(0, 5), -1);
        Check.due("month(0, -1)", x.month(0, -1), -1);
        x.chip(0);
        x.grease(1);
        Check.due("SUN", x.month(0, 2), 4);
        Check.due("RAIN", x.month(0, 3), 2);
        Check.due("GREASE", x.month(1, 1), 1);
    }

    private static void crops() {
        MuleSeasons x = Check.plain(PLAIN);
        int[][] want = {{10, 5, 7, 0, 0, 0}, {99, 10, 40, 0, 0, 0}};
        for (int c = 0; c < 2; c++) {
            for (int what = 0; what < 6; what++) {
                Check.due("crop(" + c + ", " + what + ")", x.crop(c, what), want[c][what]);
            }
        }
        Check.noSuch("crop(2, 0)", () -> x.crop(2, 0));
        Check.noSuch("crop(-1, 0)", () -> x.crop(-1, 0));
        Check.noSuch("crop(0, 6)", () -> x.crop(0, 6));
        Check.noSuch("crop(0, -1)", () -> x.crop(0, -1));
        // Pull 2: day 1 of month 0 (5, 1), day 0 of month 1 (1, 4).
        x.turn(1);
        Check.due("SUN got", x.crop(0, 3), 6);
        Check.due("RAIN got", x.crop(0, 4), 5);
        Check.due("not RIPE", x.crop(0, 5), 0);
        // Two days more of month 1: 8 and 13; then months 2 and 0: RIPE on the first of these days.
        x.turn(2);
        Check.due("SUN when RIPE", x.crop(0, 3), 11);
        Check.due("RAIN when RIPE", x.crop(0, 4), 16);
        Check.due("RIPE", x.crop(0, 5), 1);
        Check.due("SUN of the other one", x.crop(1, 3), 16);
        Check.due("RAIN of the other one", x.crop(1, 4), 17);
        Check.due("not RIPE", x.crop(1, 5), 0);
    }

    private static void cropsHeld() {
        MuleSeasons x = Check.plainWithLaw("sh0;ms9r0;ms9r0;cr1", "y:9");
        x.turn(12);
        Check.due("12 by 9 by 9", x.crop(0, 3), 972);
        x.turn(1);
        Check.due("held", x.crop(0, 3), 999);
        Check.due("no rain", x.crop(0, 4), 0);
        Check.due("not RIPE", x.crop(0, 5), 0);
        MuleSeasons y = Check.plainWithLaw("sp99h0;m;m;cs0r0v99", "y:1");
        Check.due("nothing needed, not RIPE before a day comes", y.crop(0, 5), 0);
        y.turn(1);
        Check.due("then it is", y.crop(0, 5), 1);
        Check.due("purse", y.rule(3), 198);
        for (int i = 0; i < 12; i++) {
            y.sow(0);
            y.turn(1);
        }
        Check.due("purse held", y.rule(3), 999);
    }

    private static void status() {
        MuleSeasons x = new MuleSeasons();
        x.turn(0);
        x.hay(0);
        x.grease(0);
        Check.due("no such one", x.status(0), 3);
        Check.type(x, "sp0m1f1h2;m;m;cr99");
        x.text(0);
        x.hay(100);
        x.hay(1);
        x.sow(0);
        x.sow(1);
        x.buy();
        Check.due("no such one", x.status(0), 4);
        Check.due("out of bounds", x.status(1), 1);
        Check.due("too little, ahead of not RIPE", x.status(2), 3);
        Check.due("can't be", x.status(3), 0);
        Check.due("beyond", x.status(4), 0);
        Check.due("status(5)", x.status(5), -1);
        Check.due("status(-1)", x.status(-1), -1);
        x.decades(0, 1L);
        x.seen(0, 0, true);
        x.set(2, 0);
        x.ahead(-1, false, 0);
        x.undo();
        x.back();
        Check.due("others do not count", x.status(0) + x.status(1) + x.status(2) + x.status(3), 8);
        x.reverse();
        x.undo();
        Check.due("not undone", x.status(2), 3);
    }

    private static void log() {
        MuleSeasons x = Check.plain(PLAIN);
        Check.due("none", x.log(0, 0), -1);
        x.turn(2);
        x.grease(2);
        x.turn(1);
        int[][] want = {{0, 0, 2, 1}, {1, 2, 2, 0}, {1, 0, 2, 0}};
        for (int i = 0; i < 3; i++) {
            for (int what = 0; what < 4; what++) {
                Check.due("log(" + i + ", " + what + ")", x.log(i, what), want[i][what]);
            }
        }
        Check.due("log(3, 0)", x.log(3, 0), -1);
        Check.due("log(-1, 0)", x.log(-1, 0), -1);
        Check.due("log(0, 4)", x.log(0, 4), -1);
        Check.due("log(0, -1)", x.log(0, -1), -1);
        MuleSeasons y = Check.plainWithLaw("ml9s9r9;ml9s9r9;cs1r1;cs99;cs2r2;cs50r50;cr9", "y:9");
        y.turn(1);
        Check.due("all but one RIPE", y.log(0, 3), 1 + 4 + 8 + 16);
        Check.due("PULL", y.log(0, 2), 9);
        y.turn(1);
        Check.due("the other one", y.log(0, 3), 2);
        Check.due("DAY", y.log(0, 1), 0);
        Check.due("MONTH", y.log(0, 0), 0);
        Check.due("DAY ahead", y.log(1, 1), 0);
        Check.due("MONTH ahead", y.log(1, 0), 1);
    }

    private static void longLog() {
        MuleSeasons x = Check.plainWithLaw("ml2;ml3;c", "y:1");
        x.turn(60);
        Check.due("how long", x.count(14), 60);
        Check.due("the first one", x.log(59, 1), 1);
        x.turn(3);
        Check.due("sixty at most", x.count(14), 60);
        // The fourth turn ends on day 2 of month 1.
        Check.due("the fourth one", x.log(59, 1), 2);
        Check.due("the fifth one", x.log(58, 0), 0);
        Check.due("log(60, 0)", x.log(60, 0), -1);
        x.undo();
        Check.due("the third one is there again", x.log(59, 1), 1);
        Check.due("its month", x.log(59, 0), 1);
        Check.due("sixty still", x.count(14), 60);
        for (int i = 0; i < 39; i++) {
            x.undo();
        }
        Check.due("23 turns left", x.count(14), 23);
    }

    private static void level() {
        MuleSeasons x = Check.plainWithLaw("mp8;mp9;mp4;c", "y:1");
        Check.due("both at once", x.level(0, 1), 0);
        x.turn(1);
        Check.due("72 by 8 and 9", x.level(0, 1), 71);
        Check.due("8 by 8 and 4", x.level(0, 2), 7);
        Check.due("alike", x.level(2, 2), 3);
        Check.due("the other way round", x.level(2, 0), 7);
        x.reverse();
        x.turn(1);
        Check.due("days come that way, too", x.level(2, 2), 2);
        Check.due("level(0, 3)", x.level(0, 3), -1);
        Check.due("level(-1, 0)", x.level(-1, 0), -1);
        Check.due("no plain", new MuleSeasons().level(0, 0), -1);
    }

    private static void year() {
        Check.due("none", new MuleSeasons().year(), -1);
        Check.due("six", Check.plain(PLAIN).year(), 6);
        Check.due("most", Check.plain("ml9;ml9;ml9;ml9;ml9;ml9;ml9;ml9;c").year(), 72);
    }

    private static void most() {
        MuleSeasons x = Check.plain("sp50;ms2r5;ms4r4;ms9r0;ms1r9;cs20r5;cs15r20;cs40r30v1");
        Check.due("RICHEST", x.most(0), 3);
        Check.due("DRIEST", x.most(1), 2);
        Check.due("NEEDY", x.most(2), 2);
        Check.due("most(3)", x.most(3), -1);
        Check.due("most(-1)", x.most(-1), -1);
        Check.due("no plain", new MuleSeasons().most(0), -1);
        for (int i = 0; i < 5; i++) {
            x.chip(2);
        }
        Check.due("DRIEST as it is now", x.most(1), 1);
        MuleSeasons y = Check.plainWithLaw("ml9s9r0;ml9s0r9;cs9r9;cs20r3", "y:9");
        Check.due("NEEDY at first", y.most(2), 1);
        // Eight days of sun, one of rain: nothing less than 0 for too much of it.
        y.turn(1);
        Check.due("the first one is RIPE", y.count(9), 3);
        Check.due("all RIPE", y.most(2), -1);
        MuleSeasons z = Check.plainWithLaw("ml9s9r0;m;cs9r19;cs70r9", "y:6");
        // 54 of sun: 0 and 19 still against 16 and 9.
        z.turn(1);
        Check.due("each 0 at least", z.most(2), 1);
        MuleSeasons w = Check.plainWithLaw("sh0;ml9s9r1;m;cs40r12;cs30r20", "y:4");
        // 36 of sun, 4 of rain: 4 and 8 still against 0 and 16; told they need 52 and 50.
        Check.due("as told", w.most(2), 0);
        w.turn(1);
        Check.due("what they need still", w.most(2), 1);
    }

    private static void mostOfSeveral() {
        MuleSeasons x = Check.plain("ms2r2;ms1r3;ms4r0;ms0r0;cs3r3;cs6r0;cs0r6");
        Check.due("RICHEST", x.most(0), 0);
        Check.due("DRIEST", x.most(1), 2);
        Check.due("NEEDY", x.most(2), 0);
    }

    private static void worths() {
        Check.due("none", new MuleSeasons().worths(), -1);
        MuleSeasons x = Check.plain(PLAIN);
        Check.due("both", x.worths(), 47);
        x.turn(3);
        Check.due("one", x.worths(), 40);
        x.sow(0);
        Check.due("sown again", x.worths(), 47);
        MuleSeasons y = Check.plainWithLaw("m;m;cs0r0", "y:1");
        y.turn(1);
        Check.due("all RIPE", y.worths(), 0);
    }

    private static void count() {
        MuleSeasons x = Check.plain(PLAIN);
        Check.addLaw(x, "y:1");
        Check.addLaw(x, "y:2");
        Check.type(x, "abc");
        x.set(0, 3);
        x.set(1, 4);
        x.seen(1, 1, false);
        x.turn(3);
        x.reverse();
        int[] want = {3, 2, 2, 3, 1, 3, 0, 0, 1, 1, 6, 3, 4, 1, 3, 4};
        for (int what = 0; what < 16; what++) {
            Check.due("count(" + what + ")", x.count(what), want[what]);
        }
        Check.due("count(16)", x.count(16), -1000000);
        Check.due("count(-1)", x.count(-1), -1000000);
        MuleSeasons y = Check.plainWithLaw("sh0;ml4;ml4;c", "y:9");
        for (int i = 0; i < 4; i++) {
            y.turn(60);
        }
        y.turn(39);
        Check.due("279 by 9 days", y.count(10), 2511);
        y.turn(1);
        Check.due("modulo 2,520", y.count(10), 0);
        y.turn(1);
        Check.due("nine more", y.count(10), 9);
    }
}
