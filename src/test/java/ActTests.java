/** Promises 11 to 19, 21, 43 and 44: what is done, undone and brought back. */
public final class ActTests {
    private static final String PLAIN = "sm12f5h2p9;ml2s5r1p2;ml3s1r4p3;ml1g3;cs10r5v7;cs99v40";

    public static void main(String[] args) {
        Check.test("11 turn: days", ActTests::days);
        Check.test("11 turn: the mule eats and starves", ActTests::starving);
        Check.test("11 turn: pull as it begins", ActTests::pullHolds);
        Check.test("11 turn: refused", ActTests::turnRefused);
        Check.test("11 turn: 9,999 at most", ActTests::lastTurn);
        Check.test("12 hay", ActTests::hay);
        Check.test("13 grease", ActTests::grease);
        Check.test("14 chip", ActTests::chip);
        Check.test("15 reverse", ActTests::reverse);
        Check.test("16 buy", ActTests::buy);
        Check.test("17 sow", ActTests::sow);
        Check.test("18 set", ActTests::set);
        Check.test("19 decades", ActTests::decades);
        Check.test("19 decades: hail and thieves by the draws", ActTests::draws);
        Check.test("19 decades: refused", ActTests::decadesRefused);
        Check.test("21 undo: each act", ActTests::undoEach);
        Check.test("21 undo: forty at most", ActTests::undoForty);
        Check.test("43, 44 image and back", ActTests::image);
        Check.end();
    }

    private static void days() {
        MuleSeasons x = Check.plainWithLaw("ml2;ml1;ml3;c", "y:1");
        int[] months = {0, 1, 2, 2, 2, 0, 0};
        int[] days = {1, 0, 0, 1, 2, 0, 1};
        for (int i = 0; i < 7; i++) {
            Check.due("MONTH", x.turn(1), months[i]);
            Check.due("DAY", x.count(7), days[i]);
            Check.due("TURN", x.count(5), i + 1);
            Check.due("DAYS that came", x.count(10), i + 1);
        }
        x.reverse();
        int[] monthsBack = {0, 2, 2, 2, 1, 0, 0, 2};
        int[] daysBack = {0, 2, 1, 0, 0, 1, 0, 2};
        for (int i = 0; i < 8; i++) {
            Check.due("MONTH back", x.turn(1), monthsBack[i]);
            Check.due("DAY back", x.count(7), daysBack[i]);
            Check.due("DAYS that came go on", x.count(10), i + 8);
        }
        Check.due("some turns at once", x.turn(5), 0);
        Check.due("TURN", x.count(5), 20);
    }

    private static void starving() {
        MuleSeasons x = Check.plain("sm2f5h3;mg9;m;c");
        x.turn(1);
        Check.due("FEED", x.rule(1), 2);
        Check.due("MULE", x.rule(0), 2);
        x.turn(1);
        Check.due("too little: none then", x.rule(1), 0);
        Check.due("one less", x.rule(0), 1);
        x.turn(1);
        Check.due("DEAD", x.rule(0), 0);
        x.hay(5);
        x.turn(1);
        Check.due("DEAD eats none", x.rule(1), 5);
        Check.due("and is no less", x.rule(0), 0);
        Check.due("and pulls none", x.log(0, 2), 0);
        MuleSeasons y = Check.plain("sf4h2;m;m;c");
        y.turn(2);
        Check.due("just enough", y.rule(0), 12);
        Check.due("all eaten", y.rule(1), 0);
        MuleSeasons z = Check.plain("sf0h0;m;m;c");
        z.turn(60);
        Check.due("needs none", z.rule(0), 12);
    }

    private static void pullHolds() {
        // By the day it is: 3 days go by from day 0, though on day 1 it would be 1.
        MuleSeasons x = Check.plainWithLaw("ml9;ml9;c", "y:d=0?3;y:1");
        x.turn(1);
        Check.due("three days", x.count(7), 3);
        x.turn(1);
        Check.due("one day", x.count(7), 4);
        Check.due("PULL in the log", x.log(0, 2), 1);
        MuleSeasons y = Check.plainWithLaw("ml9;ml9;c", "y:0-1");
        y.turn(1);
        Check.due("no day", y.count(10), 0);
        Check.due("a turn all the same", y.count(5), 1);
        Check.due("hay all the same", y.rule(1), 28);
    }

    private static void turnRefused() {
        MuleSeasons x = new MuleSeasons();
        Check.due("no plain", x.turn(0), -1);
        Check.due("no such one first", x.status(0), 1);
        Check.type(x, PLAIN);
        x.text(0);
        Check.due("turn(0)", x.turn(0), -1);
        Check.due("turn(61)", x.turn(61), -1);
        Check.due("turn(-1)", x.turn(-1), -1);
        Check.due("least number", x.turn(Integer.MIN_VALUE), -1);
        Check.due("greatest number", x.turn(Integer.MAX_VALUE), -1);
        Check.due("out of bounds", x.status(1), 5);
        Check.due("no turn", x.count(5), 0);
        Check.due("no act", x.count(15), 0);
        Check.due("turn(60)", x.turn(60) >= 0, true);
        Check.due("sixty", x.count(5), 60);
    }

    private static void lastTurn() {
        MuleSeasons x = Check.plain("sh0;m;m;c");
        for (int i = 0; i < 166; i++) {
            x.turn(60);
        }
        Check.due("9,960", x.count(5), 9960);
        Check.due("one too many", x.turn(40), -1);
        Check.due("one too many for decades", x.decades(40, 1L), -1);
        Check.due("none went by", x.count(5), 9960);
        Check.due("beyond", x.status(4), 1);
        Check.due("the last one", x.turn(39) >= 0, true);
        Check.due("9,999", x.count(5), 9999);
        Check.due("no more", x.turn(1), -1);
        Check.due("out of bounds first", x.turn(61), -1);
        Check.due("beyond", x.status(4), 2);
        Check.due("bounds", x.status(1), 1);
        Check.due("pull all the same", x.pull(), 2);
        // 19,998 days went by, six a year: behind one turn more 20,000, on day 2 of month 0.
        Check.due("apart they go on", x.ahead(1, false, 1), 2);
        x.undo();
        Check.due("room for one", x.turn(1) >= 0, true);
        x.undo();
        Check.due("room for one of decades", x.decades(1, 1L) >= 0, true);
        Check.due("no more of decades", x.decades(1, 1L), -1);
        Check.due("9,999", x.count(5), 9999);
    }

    private static void hay() {
        MuleSeasons x = Check.plain("sf90p9;m;m;c");
        Check.due("above 99", x.hay(10), -1);
        Check.due("hay(0)", x.hay(0), -1);
        Check.due("hay(100)", x.hay(100), -1);
        Check.due("hay(-1)", x.hay(-1), -1);
        Check.due("greatest number", x.hay(Integer.MAX_VALUE), -1);
        Check.due("too much", x.status(1), 5);
        Check.due("nine", x.hay(9), 99);
        Check.due("paid", x.rule(3), 0);
        Check.due("an act", x.count(15), 1);
        Check.due("no turn", x.count(5), 0);
        MuleSeasons y = Check.plain("sf0p9;m;m;c");
        Check.due("too little", y.hay(10), -1);
        Check.due("ground", y.status(2), 1);
        Check.due("hay(1)", y.hay(1), 1);
        Check.due("hay(8)", y.hay(8), 9);
        Check.due("none left", y.hay(1), -1);
        Check.due("no plain", new MuleSeasons().hay(1), -1);
    }

    private static void grease() {
        MuleSeasons x = Check.plain("sp2;mg7;mg9;m;c");
        Check.due("above nine", x.grease(1), -1);
        Check.due("ground", x.status(1), 1);
        Check.due("grease(0)", x.grease(0), 8);
        Check.due("grease(0)", x.grease(0), 9);
        Check.due("paid", x.rule(3), 0);
        Check.due("above nine ahead of too little", x.grease(0), -1);
        Check.due("ground", x.status(1), 2);
        Check.due("too little", x.grease(2), -1);
        Check.due("ground", x.status(2), 1);
        Check.due("grease(3)", x.grease(3), -1);
        Check.due("grease(-1)", x.grease(-1), -1);
        Check.due("ground", x.status(0), 2);
        Check.due("acts", x.count(15), 2);
    }

    private static void chip() {
        MuleSeasons x = Check.plain("sp0;ms2r8;ms0;m;c");
        Check.due("chip(0)", x.chip(0), 1);
        Check.due("RAIN", x.month(0, 3), 9);
        Check.due("chip(0)", x.chip(0), 0);
        Check.due("RAIN, nine at most", x.month(0, 3), 9);
        Check.due("no sun", x.chip(0), -1);
        Check.due("no sun", x.chip(1), -1);
        Check.due("ground", x.status(3), 2);
        Check.due("chip(3)", x.chip(3), -1);
        Check.due("chip(-1)", x.chip(-1), -1);
        Check.due("ground", x.status(0), 2);
        Check.due("acts", x.count(15), 2);
        Check.due("not paid", x.rule(3), 0);
    }

    private static void reverse() {
        MuleSeasons x = Check.plain(PLAIN);
        Check.due("other", x.reverse(), 1);
        Check.due("way", x.count(8), 1);
        // Pull 2 from day 0 of month 0: month 2, then day 2 of month 1.
        Check.due("MONTH", x.turn(1), 1);
        Check.due("DAY", x.count(7), 2);
        Check.due("as at first", x.reverse(), 0);
        Check.due("acts", x.count(15), 3);
        MuleSeasons y = new MuleSeasons();
        Check.due("no plain", y.reverse(), -1);
        Check.due("ground", y.status(0), 1);
    }

    private static void buy() {
        MuleSeasons x = Check.plain("sm3f0h1p41;m;m;c");
        x.turn(3);
        Check.due("DEAD", x.rule(0), 0);
        Check.due("buy", x.buy(), 21);
        Check.due("as told", x.rule(0), 3);
        Check.due("another one", x.buy(), 1);
        Check.due("too little", x.buy(), -1);
        Check.due("ground", x.status(2), 1);
        Check.due("acts", x.count(15), 5);
        Check.due("just enough", Check.plain("sp20;m;m;c").buy(), 0);
        Check.due("one too little", Check.plain("sp19;m;m;c").buy(), -1);
        Check.due("no plain", new MuleSeasons().buy(), -1);
    }

    private static void sow() {
        MuleSeasons x = Check.plainWithLaw("sp1;ml9s2r1;m;cs4r2v1;cs9", "y:1");
        Check.due("too little ahead of not RIPE", x.sow(0), -1);
        Check.due("ground", x.status(2), 1);
        x.turn(2);
        Check.due("RIPE", x.count(9), 1);
        Check.due("sow(0)", x.sow(0), 0);
        Check.due("not RIPE", x.crop(0, 5), 0);
        Check.due("SUN", x.crop(0, 3), 0);
        Check.due("RAIN", x.crop(0, 4), 0);
        x.turn(2);
        Check.due("RIPE again", x.log(0, 3), 1);
        Check.due("VALUE again", x.rule(3), 1);
        Check.due("sow(2)", x.sow(2), -1);
        Check.due("sow(-1)", x.sow(-1), -1);
        Check.due("ground", x.status(0), 2);
        MuleSeasons y = Check.plain(PLAIN);
        Check.due("not RIPE", y.sow(1), -1);
        Check.due("ground", y.status(3), 1);
        Check.due("no act", y.count(15), 0);
        Check.due("no plain", new MuleSeasons().sow(0), -1);
    }

    private static void set() {
        MuleSeasons x = new MuleSeasons();
        Check.due("it is so", x.set(0, 0), false);
        Check.due("HAIL", x.set(0, 9), true);
        Check.due("HAIL again", x.set(0, 9), false);
        Check.due("THIEVES", x.set(1, 1), true);
        Check.due("out of bounds", x.set(0, 10), false);
        Check.due("below", x.set(1, -1), false);
        Check.due("no such", x.set(2, 1), false);
        Check.due("no such", x.set(-1, 1), false);
        Check.due("no such", x.set(2, 5), false);
        Check.due("no such", x.set(-1, 5), false);
        Check.due("HAIL", x.count(11), 9);
        Check.due("THIEVES", x.count(12), 1);
        Check.due("back to none", x.set(0, 0), true);
        Check.due("HAIL", x.count(11), 0);
        Check.due("no status", x.status(0) + x.status(1), 0);
    }

    private static void decades() {
        MuleSeasons x = Check.plain(PLAIN);
        MuleSeasons y = Check.plain(PLAIN);
        Check.due("without either as by hand", x.decades(5, 77L), y.turn(5));
        Check.due("TURN", x.count(5), 5);
        Check.due("acts", x.count(15), 5);
        Check.due("FEED", x.rule(1), y.rule(1));
        Check.due("log", x.log(4, 1), y.log(4, 1));
        x.undo();
        Check.due("one turn undone", x.count(5), 4);
    }

    /** The draws once more, from the words of the document. */
    private static void draws() {
        for (long seed = -3; seed < 60; seed++) {
            int hail = (int) Math.floorMod(seed, 10L);
            int thieves = (int) Math.floorMod(seed * 7, 10L);
            MuleSeasons x = Check.plainWithLaw("sf99h0p9;ms2r8;ms1;ms0;c", "y:0");
            x.set(0, hail);
            x.set(1, thieves);
            int[] sun = {2, 1, 0};
            int feed = 99;
            long[] at = {seed};
            for (int t = 0; t < 6; t++) {
                if (draw(at, 10) < hail) {
                    int m = (int) draw(at, 3);
                    sun[m] = Math.max(0, sun[m] - 1);
                }
                if (draw(at, 10) < thieves) {
                    feed /= 2;
                }
            }
            x.decades(6, seed);
            Check.due("FEED by seed " + seed, x.rule(1), feed);
            for (int m = 0; m < 3; m++) {
                Check.due("SUN by seed " + seed, x.month(m, 2), sun[m]);
            }
            Check.due("RAIN by seed " + seed, x.month(0, 3), sun[0] == 2 ? 8 : 9);
            Check.due("no RAIN without SUN", x.month(2, 3), 3);
            Check.due("PURSE", x.rule(3), 9);
            Check.due("STATUS", x.status(3), 0);
            Check.due("acts", x.count(15), 6);
        }
    }

    private static long draw(long[] at, long j) {
        at[0] = at[0] * 6364136223846793005L + 1442695040888963407L;
        return (at[0] >>> 33) % j;
    }

    private static void decadesRefused() {
        MuleSeasons x = new MuleSeasons();
        Check.due("no plain", x.decades(1, 1L), -1);
        Check.type(x, PLAIN);
        x.text(0);
        Check.due("decades(0)", x.decades(0, 1L), -1);
        Check.due("decades(61)", x.decades(61, 1L), -1);
        Check.due("decades(-1)", x.decades(-1, 1L), -1);
        Check.due("one", x.decades(1, 1L) >= 0, true);
        Check.due("sixty", x.decades(60, Long.MIN_VALUE) >= 0, true);
        for (int i = 0; i < 5; i++) {
            Check.due("no status", x.status(i), 0);
        }
    }

    private static void undoEach() {
        MuleSeasons x = Check.plain("sf9p60;ml2s9r9;m;cs1r1v5");
        Check.due("none", x.undo(), -1);
        x.turn(1);
        x.hay(2);
        x.grease(0);
        x.chip(1);
        x.reverse();
        x.buy();
        x.sow(0);
        x.decades(2, 5L);
        Check.due("acts", x.count(15), 9);
        Check.due("undo", x.undo(), 8);
        Check.due("undo decades", x.undo(), 7);
        Check.due("TURN", x.count(5), 1);
        Check.due("undo sow", x.undo(), 6);
        Check.due("RIPE", x.count(9), 1);
        Check.due("PURSE", x.rule(3), 42);
        Check.due("SUN got", x.crop(0, 3), 9);
        Check.due("undo buy", x.undo(), 5);
        Check.due("PURSE", x.rule(3), 62);
        Check.due("undo reverse", x.undo(), 4);
        Check.due("way", x.count(8), 0);
        Check.due("undo chip", x.undo(), 3);
        Check.due("SUN", x.month(1, 2), 3);
        Check.due("RAIN", x.month(1, 3), 3);
        Check.due("undo grease", x.undo(), 2);
        Check.due("GREASE", x.month(0, 1), 0);
        Check.due("undo hay", x.undo(), 1);
        Check.due("FEED", x.rule(1), 7);
        Check.due("undo turn", x.undo(), 0);
        Check.due("FEED", x.rule(1), 9);
        Check.due("PURSE", x.rule(3), 60);
        Check.due("LOG", x.count(14), 0);
        Check.due("DAYS", x.count(10), 0);
        Check.due("DAY", x.count(7), 0);
        Check.due("none left", x.undo(), -1);
        Check.due("no plain", new MuleSeasons().undo(), -1);
    }

    private static void undoForty() {
        MuleSeasons x = Check.plain("sh0;m;m;c");
        x.turn(39);
        Check.due("acts", x.count(15), 39);
        x.turn(60);
        Check.due("forty", x.count(15), 40);
        for (int i = 39; i >= 0; i--) {
            Check.due("undo", x.undo(), i);
        }
        Check.due("none", x.undo(), -1);
        Check.due("59 turns", x.count(5), 59);
        x.reverse();
        Check.due("one", x.count(15), 1);
        x.undo();
        Check.due("way", x.count(8), 0);
    }

    private static void image() {
        MuleSeasons x = new MuleSeasons();
        Check.due("no plain", x.image(), -1);
        Check.due("no image", x.back(), -1);
        Check.type(x, "sf9p60;ml2s9r9;m;cs1r1v5");
        x.text(0);
        Check.due("no image of it", x.back(), -1);
        x.turn(2);
        x.seen(1, 0, true);
        Check.due("image", x.image(), 2);
        Check.due("acts stay", x.count(15), 2);
        x.grease(0);
        x.chip(1);
        x.reverse();
        x.hay(3);
        x.sow(0);
        x.turn(3);
        x.turn(0);
        x.set(0, 3);
        Check.addLaw(x, "y:1");
        x.seen(1, 0, true);
        Check.due("back", x.back(), 2);
        Check.due("no act", x.undo(), -1);
        Check.due("TURN", x.count(5), 2);
        Check.due("LOG", x.count(14), 2);
        Check.due("way", x.count(8), 0);
        Check.due("FEED", x.rule(1), 5);
        Check.due("PURSE", x.rule(3), 65);
        Check.due("GREASE", x.month(0, 1), 0);
        Check.due("SUN", x.month(1, 2), 3);
        Check.due("RIPE", x.count(9), 1);
        Check.due("DAYS", x.count(10), 4);
        Check.due("HAIL stays", x.count(11), 3);
        Check.due("LAW stays", x.count(4), 0);
        Check.due("SEEN stays", x.count(13), 2);
        Check.due("STATUS stays", x.status(1), 1);
        x.turn(2);
        Check.due("back once more", x.back(), 2);
        x.turn(4);
        Check.due("instead of it", x.image(), 6);
        x.turn(1);
        Check.due("back to that one", x.back(), 6);
        Check.type(x, "m;m;c");
        x.text(0);
        Check.due("of another plain", x.back(), -1);
    }
}
