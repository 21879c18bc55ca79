/** The edges of DECADES and of an IMAGE: ==== 4, and promises 18, 19, 43 and 44. */
public final class EdgeDecadesTests {
    public static void main(String[] args) {
        Check.test("18 set: 0 .. 9", EdgeDecadesTests::setBounds);
        Check.test("18 set: no such what", EdgeDecadesTests::setNoWhat);
        Check.test("18 set: it is so", EdgeDecadesTests::setSo);
        Check.test("18 set: without a PLAIN", EdgeDecadesTests::setWithoutPlain);
        Check.test("19 decades: no PLAIN", EdgeDecadesTests::noPlain);
        Check.test("19 decades: 1 .. 60", EdgeDecadesTests::bounds);
        Check.test("19 decades: beyond 9,999", EdgeDecadesTests::beyond);
        Check.test("19 decades: HAIL and THIEVES 0, as by hand", EdgeDecadesTests::neither);
        Check.test("19 decades: a draw of 10 below HAIL", EdgeDecadesTests::belowHail);
        Check.test("19 decades: a draw of how many MONTHS there are", EdgeDecadesTests::whichMonth);
        Check.test("19 decades: CHIPPED, if it has SUN", EdgeDecadesTests::chipped);
        Check.test("19 decades: then a draw of 10 below THIEVES", EdgeDecadesTests::belowThieves);
        Check.test("19 decades: FEED is half of it, cut", EdgeDecadesTests::half);
        Check.test("19 decades: ahead of each TURN", EdgeDecadesTests::aheadOfTurn);
        Check.test("19 decades: 64 bits, going round", EdgeDecadesTests::seeds);
        Check.test("19 decades: the seed alone tells the draws", EdgeDecadesTests::again);
        Check.test("19 decades: nothing out of the PURSE, no STATUS", EdgeDecadesTests::purse);
        Check.test("19 decades: each TURN with what is ahead of it is one ACT", EdgeDecadesTests::oneAct);
        Check.test("43 image: no PLAIN", EdgeDecadesTests::imageNoPlain);
        Check.test("43 image: the TURN", EdgeDecadesTests::imageTurn);
        Check.test("43 image: instead of the one ahead", EdgeDecadesTests::imageInstead);
        Check.test("44 back: no IMAGE of this PLAIN", EdgeDecadesTests::backNone);
        Check.test("44 back: what it keeps", EdgeDecadesTests::backKeeps);
        Check.test("44 back: what it does not keep", EdgeDecadesTests::backLeaves);
        Check.test("44 back: no ACT can be UNDONE then", EdgeDecadesTests::backActs);
        Check.test("44 back: a full LOG", EdgeDecadesTests::backLog);
        Check.end();
    }

    private static Twin.Maker plain(String text) {
        return () -> Check.plain(text);
    }

    private static MuleSeasons withBoth() {
        MuleSeasons x = Check.plain("m;m;c");
        x.set(0, 4);
        x.set(1, 6);
        return x;
    }

    private static void setBounds() {
        int[] none = {-1, 10, 11, Integer.MIN_VALUE, Integer.MAX_VALUE};
        for (int what = 0; what < 2; what++) {
            int which = what;
            for (int v : none) {
                Twin.unchanged("set(" + what + ", " + v + ")", EdgeDecadesTests::withBoth, x -> x.set(which, v) ? 1 : 0, 0);
            }
            MuleSeasons x = withBoth();
            Check.due("to 0", x.set(what, 0), true);
            Check.due("0", x.count(11 + what), 0);
            Check.due("to 9", x.set(what, 9), true);
            Check.due("9", x.count(11 + what), 9);
            Check.due("the other one", x.count(12 - what), what == 0 ? 6 : 4);
            Check.due("no ACT", x.count(15), 0);
        }
    }

    private static void setNoWhat() {
        int[] none = {-1, 2, 3, Integer.MIN_VALUE, Integer.MAX_VALUE};
        for (int what : none) {
            for (int v = -1; v < 11; v += 3) {
                int n = v;
                Twin.unchanged("set(" + what + ", " + v + ")", EdgeDecadesTests::withBoth, x -> x.set(what, n) ? 1 : 0, 0);
            }
        }
    }

    private static void setSo() {
        Twin.unchanged("HAIL 4 again", EdgeDecadesTests::withBoth, x -> x.set(0, 4) ? 1 : 0, 0);
        Twin.unchanged("THIEVES 6 again", EdgeDecadesTests::withBoth, x -> x.set(1, 6) ? 1 : 0, 0);
        Twin.unchanged("HAIL 0 at first", plain("m;m;c"), x -> x.set(0, 0) ? 1 : 0, 0);
        Twin.unchanged("THIEVES 0 at first", plain("m;m;c"), x -> x.set(1, 0) ? 1 : 0, 0);
        MuleSeasons x = withBoth();
        Check.due("as much as the other one", x.set(0, 6), true);
        Check.due("as much as the other one was", x.set(1, 4), true);
    }

    private static void setWithoutPlain() {
        MuleSeasons x = new MuleSeasons();
        Check.due("HAIL", x.set(0, 3), true);
        Check.due("THIEVES", x.set(1, 3), true);
        Check.due("HAIL again", x.set(0, 3), false);
        Check.due("HAIL", x.count(11), 3);
        Check.due("THIEVES", x.count(12), 3);
    }

    private static void noPlain() {
        int[] all = {0, 1, 60, 61};
        for (int n : all) {
            Twin.unchanged("decades(" + n + ", 1)", MuleSeasons::new, x -> x.decades(n, 1L), -1);
        }
    }

    private static void bounds() {
        int[] none = {0, -1, 61, Integer.MIN_VALUE, Integer.MAX_VALUE};
        for (int n : none) {
            Twin.unchanged("decades(" + n + ", 1)", plain("m;m;c"), x -> x.decades(n, 1L), -1);
        }
        MuleSeasons x = Check.plainWithLaw("sh0;ml2;ml1;c", "y:1");
        Check.due("one", x.decades(1, 1L), 0);
        Check.due("TURN", x.count(5), 1);
        Check.due("sixty", x.decades(60, 1L), 0);
        Check.due("TURN", x.count(5), 61);
        Check.due("DAY", x.count(7), 1);
    }

    private static void beyond() {
        Twin.Maker at9998 = () -> EdgeTurnTests.atTurn("sh0;m;m;c", "y:1", 9998);
        Twin.Maker at9999 = () -> EdgeTurnTests.atTurn("sh0;m;m;c", "y:1", 9999);
        Twin.unchanged("decades(2, 1)", at9998, x -> x.decades(2, 1L), -1);
        Twin.unchanged("decades(60, 1)", at9998, x -> x.decades(60, 1L), -1);
        Twin.unchanged("decades(1, 1)", at9999, x -> x.decades(1, 1L), -1);
        MuleSeasons x = at9998.make();
        // 9,999 days by six: DAY 0 of MONTH 1.
        Check.due("the last one", x.decades(1, 1L), 1);
        Check.due("9,999", x.count(5), 9999);
        MuleSeasons y = EdgeTurnTests.atTurn("sh0;m;m;c", "y:1", 9939);
        Check.due("sixty to 9,999", y.decades(60, 1L), 1);
        Check.due("9,999", y.count(5), 9999);
    }

    private static void neither() {
        for (long seed = -20; seed < 20; seed++) {
            long s = seed;
            Twin.Maker maker = () -> {
                MuleSeasons x = Check.plain("sf20h3p5;ml2s5r1p2;ml3s1r4p3;ml1g3;cs10r5v7;cs99v40");
                x.decades(9, s);
                return x;
            };
            MuleSeasons y = Check.plain("sf20h3p5;ml2s5r1p2;ml3s1r4p3;ml1g3;cs10r5v7;cs99v40");
            y.turn(9);
            Check.due("as by hand by seed " + seed, Twin.all(maker.make()).equals(Twin.all(y)), true);
        }
    }

    /** The j-th draw of 10 by the seed, from 0. */
    private static long drawOf(long seed, int j, int of) {
        long x = seed;
        for (int i = 0; i <= j; i++) {
            x = x * 6364136223846793005L + 1442695040888963407L;
        }
        return (x >>> 33) % of;
    }

    /** The first seed from one on whose j-th draw of 10 is v. */
    private static long seedBy(int j, int v, long from) {
        for (long seed = from; seed < from + 1000; seed++) {
            if (drawOf(seed, j, 10) == v) {
                return seed;
            }
        }
        throw new IllegalStateException("no such seed");
    }

    private static final String STILL = "sf80h0p0;ml9s9r0;ml9s9r0;ml9s9r0;c";

    private static MuleSeasons struck(int hail, int thieves, int n, long seed) {
        MuleSeasons x = Check.plainWithLaw(STILL, "y:0");
        x.set(0, hail);
        x.set(1, thieves);
        x.decades(n, seed);
        return x;
    }

    private static int sunLost(MuleSeasons x) {
        return 27 - x.month(0, 2) - x.month(1, 2) - x.month(2, 2);
    }

    private static void belowHail() {
        for (int v = 0; v < 10; v++) {
            long seed = seedBy(0, v, 100);
            for (int hail = 0; hail < 10; hail++) {
                int due = v < hail ? 1 : 0;
                MuleSeasons x = struck(hail, 0, 1, seed);
                Check.due("SUN lost by draw " + v + " of HAIL " + hail, sunLost(x), due);
                Check.due("RAIN by it", x.month(0, 3) + x.month(1, 3) + x.month(2, 3), due);
            }
        }
    }

    private static void whichMonth() {
        String[] plains = {"sh0;ms9;ms9;c", STILL, "sh0;ms9;ms9;ms9;ms9;ms9;ms9;ms9;ms9;c"};
        int[] months = {2, 3, 8};
        for (int k = 0; k < 3; k++) {
            int met = 0;
            for (int i = 0; i < 40; i++) {
                long seed = seedBy(0, i % 9, 50L * i);
                MuleSeasons x = Check.plain(plains[k]);
                x.set(0, 9);
                x.decades(1, seed);
                int month = (int) drawOf(seed, 1, months[k]);
                met |= 1 << month;
                for (int m = 0; m < months[k]; m++) {
                    Check.due("SUN of MONTH " + m + " by seed " + seed, x.month(m, 2), m == month ? 8 : 9);
                }
            }
            Check.due("all MONTHS were met", met, (1 << months[k]) - 1);
        }
    }

    private static void chipped() {
        long seed = seedBy(0, 0, 1);
        int month = (int) drawOf(seed, 1, 2);
        String[] items = {"s0r5", "s1r5", "s1r8", "s1r9", "s9r9"};
        int[] sun = {0, 0, 0, 0, 8};
        int[] rain = {5, 6, 9, 9, 9};
        for (int i = 0; i < items.length; i++) {
            MuleSeasons x = Check.plainWithLaw("m" + items[i] + ";m" + items[i] + ";c", "y:0");
            x.set(0, 1);
            x.decades(1, seed);
            Check.due("SUN of " + items[i], x.month(month, 2), sun[i]);
            Check.due("RAIN of " + items[i], x.month(month, 3), rain[i]);
            Check.due("SUN of the other one", x.month(1 - month, 2), items[i].charAt(1) - '0');
            Check.due("RAIN of the other one", x.month(1 - month, 3), items[i].charAt(3) - '0');
            Check.due("an ACT all the same", x.count(15), 1);
            Check.due("no STATUS", x.status(3), 0);
        }
    }

    private static void belowThieves() {
        // Without a hit of HAIL the second draw is that of THIEVES, with one it is the third.
        for (int v = 0; v < 10; v++) {
            long second = seedBy(1, v, 7);
            long third = seedBy(2, v, 7);
            while (drawOf(third, 0, 10) >= 5) {
                third = seedBy(2, v, third + 1);
            }
            for (int thieves = 0; thieves < 10; thieves++) {
                int due = v < thieves ? 40 : 80;
                Check.due("FEED by draw " + v, struck(0, thieves, 1, second).rule(1), due);
                MuleSeasons x = struck(5, thieves, 1, third);
                Check.due("FEED behind HAIL by draw " + v, x.rule(1), due);
                Check.due("SUN lost", sunLost(x), 1);
            }
        }
        // A MONTH without SUN is drawn all the same.
        long seed = seedBy(2, 0, 900);
        while (drawOf(seed, 0, 10) > 8 || drawOf(seed, 1, 10) == 0) {
            seed = seedBy(2, 0, seed + 1);
        }
        MuleSeasons y = Check.plainWithLaw("sf80h0;ms0;ms0;c", "y:0");
        y.set(0, 9);
        y.set(1, 1);
        y.decades(1, seed);
        Check.due("FEED by the third draw", y.rule(1), 40);
    }

    private static void half() {
        int[] feed = {0, 1, 2, 3, 98, 99};
        int[] due = {0, 0, 1, 1, 49, 49};
        long seed = seedBy(1, 0, 3);
        for (int i = 0; i < feed.length; i++) {
            MuleSeasons x = Check.plainWithLaw("sh0f" + feed[i] + ";m;m;c", "y:0");
            x.set(1, 1);
            x.decades(1, seed);
            Check.due("half of " + feed[i], x.rule(1), due[i]);
        }
    }

    private static void aheadOfTurn() {
        // Half of 5 is 2: less than the HAY of 3 that is eaten behind it, and the MULE is one less.
        long seed = seedBy(1, 0, 3);
        MuleSeasons x = Check.plainWithLaw("sf5h3m4;ml9;m;c", "y:f");
        x.set(1, 1);
        x.decades(1, seed);
        Check.due("FEED", x.rule(1), 0);
        Check.due("MULE", x.rule(0), 3);
        Check.due("PULL by what is left", x.log(0, 2), 2);
        // The SUN that comes is the one that HAIL left.
        long hailed = seedBy(0, 0, 1);
        MuleSeasons y = Check.plainWithLaw("sh0;ms4r0;ms4r0;cs99", "y:9");
        y.set(0, 1);
        y.decades(1, hailed);
        int month = (int) drawOf(hailed, 1, 2);
        // Nine DAYS: two of MONTH 0, three of MONTH 1, three of MONTH 0, one of MONTH 1.
        Check.due("SUN", y.crop(0, 3), 36 - (month == 0 ? 5 : 4));
        Check.due("RAIN", y.crop(0, 4), month == 0 ? 5 : 4);
    }

    private static void seeds() {
        long[] all = {0L, 1L, -1L, Long.MIN_VALUE, Long.MAX_VALUE, 1L << 33, -(1L << 33), 6364136223846793005L};
        for (long seed : all) {
            long x = seed;
            int sun = 27;
            int feed = 80;
            int[] left = {9, 9, 9};
            for (int t = 0; t < 30; t++) {
                x = x * 6364136223846793005L + 1442695040888963407L;
                if (Long.remainderUnsigned(x >>> 33, 10) < 9) {
                    x = x * 6364136223846793005L + 1442695040888963407L;
                    int m = (int) Long.remainderUnsigned(x >>> 33, 3);
                    sun -= left[m] > 0 ? 1 : 0;
                    left[m] = Math.max(0, left[m] - 1);
                }
                x = x * 6364136223846793005L + 1442695040888963407L;
                feed /= Long.remainderUnsigned(x >>> 33, 10) < 1 ? 2 : 1;
            }
            MuleSeasons y = struck(9, 1, 30, seed);
            Check.due("SUN lost by seed " + seed, sunLost(y), 27 - sun);
            Check.due("FEED by seed " + seed, y.rule(1), feed);
            for (int m = 0; m < 3; m++) {
                Check.due("SUN of MONTH " + m, y.month(m, 2), left[m]);
            }
        }
    }

    private static void again() {
        Twin.Maker once = () -> struck(5, 5, 6, 77L);
        Twin.Maker afterOthers = () -> {
            MuleSeasons x = Check.plainWithLaw(STILL, "y:0");
            x.set(0, 5);
            x.set(1, 5);
            x.decades(7, 3L);
            for (int i = 0; i < 7; i++) {
                x.undo();
            }
            x.decades(6, 77L);
            return x;
        };
        Check.due("another one ahead tells nothing", Twin.all(once.make()).equals(Twin.all(afterOthers.make())), true);
    }

    private static void purse() {
        MuleSeasons x = struck(9, 9, 60, 5L);
        Check.due("PURSE", x.rule(3), 0);
        Check.due("all SUN is lost in time", sunLost(x) > 20, true);
        for (int what = 0; what < 5; what++) {
            Check.due("STATUS " + what, x.status(what), 0);
        }
        Check.due("GREASE", x.month(0, 1), 0);
    }

    private static void oneAct() {
        MuleSeasons x = struck(9, 9, 10, 11L);
        Check.due("ten", x.count(15), 10);
        for (int t = 9; t >= 0; t--) {
            Check.due("undo()", x.undo(), t);
            MuleSeasons y = Check.plainWithLaw(STILL, "y:0");
            y.set(0, 9);
            y.set(1, 9);
            if (t > 0) {
                y.decades(t, 11L);
            }
            Check.due("TURN", x.count(5), t);
            Check.due("FEED", x.rule(1), y.rule(1));
            Check.due("SUN lost", sunLost(x), sunLost(y));
        }
        Check.due("forty at most", struck(9, 9, 41, 1L).count(15), 40);
    }

    private static void imageNoPlain() {
        Twin.unchanged("image()", MuleSeasons::new, x -> x.image(), -1);
        MuleSeasons x = new MuleSeasons();
        x.image();
        Check.type(x, "m;m;c");
        x.text(0);
        Check.due("it was none", x.back(), -1);
    }

    private static void imageTurn() {
        MuleSeasons x = EdgeTurnTests.atTurn("sh0;m;m;c", "y:1", 9999);
        Check.due("at 9,999", x.image(), 9999);
        Check.due("no ACT of it", x.count(15), 40);
        x.undo();
        Check.due("back to 9,999", x.back(), 9999);
        MuleSeasons y = Check.plain("m;m;c");
        Check.due("at 0", y.image(), 0);
        y.turn(3);
        Check.due("back to 0", y.back(), 0);
        Check.due("its LOG", y.count(14), 0);
        Check.due("its DAYS", y.count(10), 0);
    }

    private static void imageInstead() {
        MuleSeasons x = Check.plain("m;m;c");
        x.image();
        x.turn(2);
        Check.due("instead", x.image(), 2);
        x.turn(3);
        Check.due("the later one", x.back(), 2);
        Check.due("again", x.back(), 2);
        x.undo();
        Check.due("the one ahead is gone", x.count(5), 2);
    }

    private static void backNone() {
        Twin.unchanged("no PLAIN", MuleSeasons::new, x -> x.back(), -1);
        Twin.unchanged("no IMAGE", plain("m;m;c"), x -> x.back(), -1);
        Twin.unchanged("of another PLAIN", () -> {
            MuleSeasons x = Check.plain("m;m;c");
            x.image();
            Check.type(x, "m;m;c");
            x.text(0);
            x.turn(2);
            return x;
        }, x -> x.back(), -1);
        MuleSeasons y = Check.plain("m;m;c");
        y.image();
        Check.type(y, "m;m;c;");
        y.text(0);
        Check.due("a FAULT leaves it", y.back(), 0);
        y.end(0);
        Check.addLaw(y, "y:1");
        Check.due("a LAW leaves it", y.back(), 0);
    }

    private static MuleSeasons kept() {
        MuleSeasons x = Check.plainWithLaw("sf9h2p90;ml2g1s5r5;ml2;ml9;cs1r1;cs9r9;cs99r99", "y:2");
        x.turn(4);
        x.reverse();
        x.hay(3);
        x.grease(1);
        x.chip(0);
        x.turn(3);
        x.image();
        return x;
    }

    private static void backKeeps() {
        MuleSeasons x = kept();
        x.back();
        MuleSeasons y = kept();
        y.reverse();
        y.buy();
        y.hay(5);
        y.grease(0);
        y.grease(2);
        y.chip(1);
        y.sow(0);
        y.turn(5);
        y.decades(3, 9L);
        y.undo();
        Check.due("back", y.back(), 7);
        Check.due("as it was", Twin.all(x).equals(Twin.all(y)), true);
        MuleSeasons z = kept();
        int[] due = {3, 3, 1, 0, 0, 7, 1, 0, 1, 3, 14, 0, 0, 0, 7, 11};
        for (int what = 0; what < 16; what++) {
            Check.due("count(" + what + ")", z.count(what), due[what]);
        }
    }

    private static void backLeaves() {
        MuleSeasons x = kept();
        x.set(0, 2);
        x.set(1, 3);
        x.seen(1, 1, true);
        x.hay(0);
        Check.addLaw(x, "y:5");
        Check.type(x, "m;m");
        Check.due("back", x.back(), 7);
        Check.due("LAWS", x.count(2), 2);
        Check.due("the TAPE", x.count(3), 3);
        Check.due("which holds", x.count(4), 1);
        Check.due("HAIL", x.count(11), 2);
        Check.due("THIEVES", x.count(12), 3);
        Check.due("SEEN", x.count(13), 1);
        Check.due("STATUS", x.status(1), 1);
    }

    private static void backActs() {
        MuleSeasons x = kept();
        Check.due("ACTS ahead", x.count(15), 11);
        x.turn(2);
        x.back();
        Check.due("none", x.count(15), 0);
        Check.due("undo()", x.undo(), -1);
        Check.due("as it was", x.count(5), 7);
        x.turn(1);
        Check.due("one", x.count(15), 1);
        Check.due("undo()", x.undo(), 0);
        Check.due("as it was", x.count(5), 7);
        Check.due("back() again", x.back(), 7);
    }

    private static void backLog() {
        MuleSeasons x = EdgeTurnTests.atTurn("sh0;ml2;ml1;ml3;c", "y:1", 62);
        x.image();
        int[] days = new int[60];
        for (int i = 0; i < 60; i++) {
            days[i] = x.log(i, 1);
        }
        x.turn(35);
        x.back();
        Check.due("how long", x.count(14), 60);
        for (int i = 0; i < 60; i++) {
            Check.due("log(" + i + ", 1)", x.log(i, 1), days[i]);
        }
        Check.due("no more", x.log(60, 1), -1);
    }
}
