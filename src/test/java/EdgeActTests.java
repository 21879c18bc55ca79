/** The edges of what is done by hand, of STATUS and of what is UNDONE: ==== 2, and promises 12 to 17, 20 and 21. */
public final class EdgeActTests {
    private static final int NO_SUCH = 0;
    private static final int TOO_MUCH = 1;
    private static final int TOO_POOR = 2;
    private static final int CANNOT_BE = 3;

    public static void main(String[] args) {
        Check.test("12 hay: n 1 .. 99", EdgeActTests::hayBounds);
        Check.test("12 hay: FEED 99 at most", EdgeActTests::hayAbove);
        Check.test("12 hay: PURSE less by as much", EdgeActTests::hayPurse);
        Check.test("12 hay: no PLAIN", EdgeActTests::hayNoPlain);
        Check.test("12 hay: of several grounds the first", EdgeActTests::hayFirst);
        Check.test("13 grease: no such MONTH", EdgeActTests::greaseNoMonth);
        Check.test("13 grease: GREASE 9 at most", EdgeActTests::greaseAbove);
        Check.test("13 grease: PURSE 1 less", EdgeActTests::greasePurse);
        Check.test("13 grease: of several grounds the first", EdgeActTests::greaseFirst);
        Check.test("14 chip: no such MONTH", EdgeActTests::chipNoMonth);
        Check.test("14 chip: with SUN 0 it can't be", EdgeActTests::chipNoSun);
        Check.test("14 chip: RAIN 9 at most", EdgeActTests::chipRain);
        Check.test("15 reverse: no PLAIN", EdgeActTests::reverseNoPlain);
        Check.test("15 reverse: 0 as at first, 1 the other one", EdgeActTests::reverseTwice);
        Check.test("16 buy: no PLAIN", EdgeActTests::buyNoPlain);
        Check.test("16 buy: PURSE 20 less", EdgeActTests::buyPurse);
        Check.test("16 buy: as told", EdgeActTests::buyAsTold);
        Check.test("17 sow: no such CROP", EdgeActTests::sowNoCrop);
        Check.test("17 sow: PURSE 2 less", EdgeActTests::sowPurse);
        Check.test("17 sow: not RIPE", EdgeActTests::sowNotRipe);
        Check.test("17 sow: of several grounds the first", EdgeActTests::sowFirst);
        Check.test("17 sow: nothing got yet", EdgeActTests::sowNothing);
        Check.test("20 status: no such what", EdgeActTests::statusEdges);
        Check.test("20 status: each ground counts by itself", EdgeActTests::statusEach);
        Check.test("20 status: ACTS alone", EdgeActTests::statusActsAlone);
        Check.test("20 status: not UNDONE", EdgeActTests::statusNotUndone);
        Check.test("21 undo: none", EdgeActTests::undoNone);
        Check.test("21 undo: each TURN is an ACT", EdgeActTests::undoTurns);
        Check.test("21 undo: the latest 40", EdgeActTests::undoForty);
        Check.test("21 undo: all as it was ahead of the latest 40", EdgeActTests::undoAllOfForty);
        Check.test("21 undo: what is refused is no ACT", EdgeActTests::undoRefused);
        Check.test("21 undo: each ACT by hand", EdgeActTests::undoByHand);
        Check.test("21 undo: another ACT behind it", EdgeActTests::undoThenAct);
        Check.end();
    }

    private static Twin.Maker plain(String text) {
        return () -> Check.plain(text);
    }

    private static void hayBounds() {
        Twin.Maker rich = plain("sf0p99;m;m;c");
        int[] none = {0, -1, 100, 101, Integer.MIN_VALUE, Integer.MAX_VALUE};
        for (int n : none) {
            Twin.refused("hay(" + n + ")", rich, x -> x.hay(n), -1, TOO_MUCH);
        }
        Check.due("hay(1)", rich.make().hay(1), 1);
        MuleSeasons x = rich.make();
        Check.due("hay(99)", x.hay(99), 99);
        Check.due("PURSE", x.rule(3), 0);
        Check.due("STATUS", x.status(TOO_MUCH), 0);
    }

    private static void hayAbove() {
        Check.due("to 99", Check.plain("sf90p99;m;m;c").hay(9), 99);
        Twin.refused("to 100", plain("sf90p99;m;m;c"), x -> x.hay(10), -1, TOO_MUCH);
        Twin.refused("from 99", plain("sf99p99;m;m;c"), x -> x.hay(1), -1, TOO_MUCH);
        Twin.refused("to 198", plain("sf99p99;m;m;c"), x -> x.hay(99), -1, TOO_MUCH);
        Check.due("from 98", Check.plain("sf98p99;m;m;c").hay(1), 99);
        MuleSeasons x = Check.plain("sf99h1p99;m;m;c");
        x.turn(1);
        Check.due("room for one", x.hay(1), 99);
    }

    private static void hayPurse() {
        MuleSeasons x = Check.plain("sf0p9;m;m;c");
        Check.due("all of it", x.hay(9), 9);
        Check.due("PURSE", x.rule(3), 0);
        Twin.refused("one more", plain("sf0p9;m;m;c"), y -> y.hay(10), -1, TOO_POOR);
        Twin.refused("of nothing", plain("sf0p0;m;m;c"), y -> y.hay(1), -1, TOO_POOR);
        Check.due("one of ten", Check.plain("sf0p10;m;m;c").hay(1), 1);
    }

    private static void hayNoPlain() {
        int[] all = {1, 0, 99, 100, -1};
        for (int n : all) {
            Twin.refused("hay(" + n + ")", MuleSeasons::new, x -> x.hay(n), -1, NO_SUCH);
        }
    }

    private static void hayFirst() {
        Twin.refused("out of bounds ahead of too little", plain("sf0p0;m;m;c"), x -> x.hay(100), -1, TOO_MUCH);
        Twin.refused("above 99 ahead of too little", plain("sf99p0;m;m;c"), x -> x.hay(1), -1, TOO_MUCH);
        Twin.refused("above 99 ahead of too little", plain("sf95p4;m;m;c"), x -> x.hay(5), -1, TOO_MUCH);
        Twin.refused("too little alone", plain("sf94p4;m;m;c"), x -> x.hay(5), -1, TOO_POOR);
    }

    private static final String TWO = "sp5;mg8;m;c";

    private static void greaseNoMonth() {
        int[] none = {-1, 2, 7, 8, Integer.MIN_VALUE, Integer.MAX_VALUE};
        for (int month : none) {
            Twin.refused("grease(" + month + ")", plain(TWO), x -> x.grease(month), -1, NO_SUCH);
        }
        Twin.refused("no PLAIN", MuleSeasons::new, x -> x.grease(0), -1, NO_SUCH);
        Check.due("the last one", Check.plain(TWO).grease(1), 1);
        Check.due("the eighth", Check.plain("m;m;m;m;m;m;m;mg2;c").grease(7), 3);
        Twin.refused("a ninth", plain("m;m;m;m;m;m;m;mg2;c"), x -> x.grease(8), -1, NO_SUCH);
    }

    private static void greaseAbove() {
        MuleSeasons x = Check.plain(TWO);
        Check.due("from 8", x.grease(0), 9);
        Check.due("as it is now", x.month(0, 1), 9);
        Twin.refused("from 9", plain("sp5;mg9;m;c"), y -> y.grease(0), -1, TOO_MUCH);
        Check.due("above nine", x.grease(0), -1);
        Check.due("9 still", x.month(0, 1), 9);
        Check.due("the other one", x.grease(1), 1);
    }

    private static void greasePurse() {
        MuleSeasons x = Check.plain("sp1;m;m;c");
        Check.due("the last one", x.grease(0), 1);
        Check.due("PURSE", x.rule(3), 0);
        Twin.refused("of nothing", plain("sp0;m;m;c"), y -> y.grease(0), -1, TOO_POOR);
    }

    private static void greaseFirst() {
        Twin.refused("no such MONTH ahead of too little", plain("sp0;m;m;c"), x -> x.grease(2), -1, NO_SUCH);
        Twin.refused("above nine ahead of too little", plain("sp0;mg9;m;c"), x -> x.grease(0), -1, TOO_MUCH);
    }

    private static void chipNoMonth() {
        int[] none = {-1, 2, 7, 8, Integer.MIN_VALUE, Integer.MAX_VALUE};
        for (int month : none) {
            Twin.refused("chip(" + month + ")", plain(TWO), x -> x.chip(month), -1, NO_SUCH);
        }
        Twin.refused("no PLAIN", MuleSeasons::new, x -> x.chip(0), -1, NO_SUCH);
        Check.due("the last one", Check.plain(TWO).chip(1), 2);
        Check.due("the eighth", Check.plain("m;m;m;m;m;m;m;ms9;c").chip(7), 8);
        Twin.refused("a ninth", plain("m;m;m;m;m;m;m;ms9;c"), x -> x.chip(8), -1, NO_SUCH);
    }

    private static void chipNoSun() {
        MuleSeasons x = Check.plain("sp0;ms1r4;ms0;c");
        Check.due("SUN 1", x.chip(0), 0);
        Check.due("RAIN", x.month(0, 3), 5);
        Check.due("an ACT", x.count(15), 1);
        Twin.refused("SUN 0", plain("sp0;ms1r4;ms0;c"), y -> y.chip(1), -1, CANNOT_BE);
        Check.due("SUN 0 then", x.chip(0), -1);
        Check.due("SUN", x.month(0, 2), 0);
        Check.due("RAIN still", x.month(0, 3), 5);
        Check.due("one ACT", x.count(15), 1);
        Check.due("STATUS", x.status(CANNOT_BE), 1);
        Check.due("out of no PURSE", x.rule(3), 0);
        Check.due("SUN 9", Check.plain("ms9;m;c").chip(0), 8);
    }

    private static void chipRain() {
        MuleSeasons x = Check.plain("ms5r8;m;c");
        x.chip(0);
        Check.due("from 8", x.month(0, 3), 9);
        Check.due("SUN", x.chip(0), 3);
        Check.due("from 9", x.month(0, 3), 9);
        x.undo();
        x.undo();
        Check.due("undone", x.month(0, 3), 8);
        Check.due("undone", x.month(0, 2), 5);
    }

    private static void reverseNoPlain() {
        Twin.refused("reverse()", MuleSeasons::new, x -> x.reverse(), -1, NO_SUCH);
    }

    private static void reverseTwice() {
        MuleSeasons x = Check.plain("sp0;m;m;c");
        int[] due = {1, 0, 1};
        for (int i = 0; i < 3; i++) {
            Check.due("reverse()", x.reverse(), due[i]);
            Check.due("the way", x.count(8), due[i]);
            Check.due("ACTS", x.count(15), i + 1);
        }
    }

    private static void buyNoPlain() {
        Twin.refused("buy()", MuleSeasons::new, x -> x.buy(), -1, NO_SUCH);
    }

    private static void buyPurse() {
        Check.due("20", Check.plain("sp20;m;m;c").buy(), 0);
        Check.due("21", Check.plain("sp21;m;m;c").buy(), 1);
        Check.due("99", Check.plain("sp99;m;m;c").buy(), 79);
        Twin.refused("19", plain("sp19;m;m;c"), x -> x.buy(), -1, TOO_POOR);
        Twin.refused("0", plain("sp0;m;m;c"), x -> x.buy(), -1, TOO_POOR);
    }

    private static void buyAsTold() {
        int[] told = {1, 12, 30};
        for (int mule : told) {
            MuleSeasons x = Check.plain("sf0h1p40m" + mule + ";m;m;cv0");
            x.turn(1);
            Check.due("one less", x.rule(0), mule - 1);
            Check.due("another one", x.buy(), 20);
            Check.due("as told", x.rule(0), mule);
            x.turn(mule);
            Check.due("DEAD", x.rule(0), 0);
            Check.due("it is for sale still", x.buy() >= 0, true);
            Check.due("as told", x.rule(0), mule);
            x.undo();
            Check.due("undone", x.rule(0), 0);
        }
        MuleSeasons x = Check.plain("sm7p20;m;m;c");
        Check.due("unless it is less", x.buy(), 0);
        Check.due("as told", x.rule(0), 7);
    }

    /** Both crops are ripe and the purse holds so much. */
    private static MuleSeasons ripe(int purse) {
        MuleSeasons x = Check.plainWithLaw("sh0p" + purse + ";m;m;cs1r1v0;cs3r3v0;cs99", "y:1");
        x.turn(1);
        Check.due("RIPE", x.count(9), 3);
        return x;
    }

    private static void sowNoCrop() {
        int[] none = {-1, 3, 4, 5, Integer.MIN_VALUE, Integer.MAX_VALUE};
        for (int crop : none) {
            Twin.refused("sow(" + crop + ")", () -> ripe(9), x -> x.sow(crop), -1, NO_SUCH);
        }
        Twin.refused("no PLAIN", MuleSeasons::new, x -> x.sow(0), -1, NO_SUCH);
        Check.due("the second one", ripe(9).sow(1), 7);
    }

    private static void sowPurse() {
        Check.due("2", ripe(2).sow(0), 0);
        Check.due("3", ripe(3).sow(0), 1);
        Twin.refused("1", () -> ripe(1), x -> x.sow(0), -1, TOO_POOR);
        Twin.refused("0", () -> ripe(0), x -> x.sow(0), -1, TOO_POOR);
    }

    private static void sowNotRipe() {
        Twin.refused("the third one", () -> ripe(9), x -> x.sow(2), -1, CANNOT_BE);
        MuleSeasons x = ripe(9);
        Check.due("RIPE", x.sow(0), 7);
        Check.due("not RIPE then", x.sow(0), -1);
        Check.due("STATUS", x.status(CANNOT_BE), 1);
        Check.due("PURSE", x.rule(3), 7);
    }

    private static void sowFirst() {
        Twin.refused("no such CROP ahead of too little", () -> ripe(0), x -> x.sow(3), -1, NO_SUCH);
        Twin.refused("too little ahead of not RIPE", () -> ripe(1), x -> x.sow(2), -1, TOO_POOR);
        Twin.refused("not RIPE alone", () -> ripe(2), x -> x.sow(2), -1, CANNOT_BE);
    }

    private static void sowNothing() {
        MuleSeasons x = ripe(9);
        x.sow(1);
        int[] due = {3, 3, 0, 0, 0, 0};
        for (int what = 0; what < 6; what++) {
            Check.due("crop(1, " + what + ")", x.crop(1, what), due[what]);
        }
        Check.due("the other one", x.crop(0, 3), 3);
        Check.due("RIPE", x.count(9), 1);
        x.turn(1);
        Check.due("RIPE by a DAY", x.count(9), 3);
        Check.due("in the LOG", x.log(0, 3), 2);
    }

    private static void statusEdges() {
        int[] none = {-1, 5, 6, Integer.MIN_VALUE, Integer.MAX_VALUE};
        for (int what : none) {
            Twin.unchanged("status(" + what + ")", plain(TWO), x -> x.status(what), -1);
            Check.due("no PLAIN", new MuleSeasons().status(what), -1);
        }
        for (int what = 0; what < 5; what++) {
            Check.due("at first", new MuleSeasons().status(what), 0);
            Check.due("with a PLAIN", Check.plain(TWO).status(what), 0);
        }
    }

    private static void statusEach() {
        MuleSeasons x = Check.plain("sp0f0;ms0;m;c");
        for (int i = 0; i < 5; i++) {
            x.chip(2);
        }
        for (int i = 0; i < 4; i++) {
            x.turn(61);
        }
        for (int i = 0; i < 3; i++) {
            x.hay(1);
        }
        x.chip(0);
        x.chip(0);
        int[] due = {5, 4, 3, 2, 0};
        for (int what = 0; what < 5; what++) {
            Check.due("status(" + what + ")", x.status(what), due[what]);
        }
        MuleSeasons y = EdgeTurnTests.atTurn("sh0;m;m;c", "y:0", 9999);
        for (int i = 1; i < 4; i++) {
            y.turn(i);
            Check.due("status(4)", y.status(4), i);
        }
    }

    private static void statusActsAlone() {
        Twin.Maker maker = plain("sp0f0;ms0;m;c");
        Twin.unchanged("set", maker, x -> x.set(0, 10) ? 1 : 0, 0);
        Twin.unchanged("decades", maker, x -> x.decades(61, 1L), -1);
        Twin.unchanged("undo", maker, x -> x.undo(), -1);
        Twin.unchanged("back", maker, x -> x.back(), -1);
        Twin.unchanged("seen", maker, x -> x.seen(0, 0, true), -1);
        Twin.unchanged("law", maker, x -> x.law(0) ? 1 : 0, 0);
        Twin.unchanged("end", maker, x -> x.end(1) ? 1 : 0, 0);
        Twin.unchanged("text", maker, x -> x.text(0), -1);
        Twin.unchanged("image", MuleSeasons::new, x -> x.image(), -1);
        Twin.unchanged("decades without a PLAIN", MuleSeasons::new, x -> x.decades(1, 1L), -1);
    }

    private static void statusNotUndone() {
        MuleSeasons x = Check.plain("sp0f0;m;m;c");
        x.reverse();
        x.turn(0);
        x.hay(1);
        x.image();
        x.grease(9);
        Check.due("undo()", x.undo(), 0);
        for (int what = 0; what < 3; what++) {
            Check.due("behind undo, " + what, x.status(what), 1);
        }
        x.back();
        for (int what = 0; what < 3; what++) {
            Check.due("behind back, " + what, x.status(what), 1);
        }
    }

    private static void undoNone() {
        Twin.unchanged("no PLAIN", MuleSeasons::new, x -> x.undo(), -1);
        Twin.unchanged("no ACT", plain(TWO), x -> x.undo(), -1);
        MuleSeasons x = Check.plain(TWO);
        x.reverse();
        Check.due("one", x.undo(), 0);
        Check.due("none", x.undo(), -1);
        Check.due("none again", x.undo(), -1);
        Check.due("none can be", x.count(15), 0);
    }

    private static void undoTurns() {
        MuleSeasons x = Check.plainWithLaw("sh0;m;m;c", "y:1");
        x.turn(3);
        Check.due("three", x.count(15), 3);
        x.decades(2, 1L);
        Check.due("five", x.count(15), 5);
        for (int left = 4; left >= 0; left--) {
            Check.due("undo()", x.undo(), left);
            Check.due("TURN", x.count(5), left);
            Check.due("DAYS", x.count(10), left);
        }
    }

    private static void undoForty() {
        int[] turns = {39, 40, 41, 60};
        for (int n : turns) {
            MuleSeasons x = Check.plainWithLaw("sh0;m;m;c", "y:1");
            x.turn(n);
            int acts = Math.min(40, n);
            Check.due("ACTS of " + n, x.count(15), acts);
            for (int left = acts - 1; left >= 0; left--) {
                Check.due("undo() of " + n, x.undo(), left);
            }
            Check.due("no more of " + n, x.undo(), -1);
            Check.due("TURN left of " + n, x.count(5), n - acts);
        }
        MuleSeasons y = Check.plain("sh0;m;m;c");
        y.hay(5);
        y.turn(40);
        for (int i = 0; i < 40; i++) {
            y.undo();
        }
        Check.due("the one ahead of forty stays", y.rule(1), 35);
        Check.due("none", y.undo(), -1);
    }

    /** It stands at its image, and no act can be undone. */
    private static MuleSeasons withoutActs(MuleSeasons x) {
        x.image();
        x.back();
        return x;
    }

    private static void undoAllOfForty() {
        String text = "sm20f20h1p60;ml2g1s5r5;ml2;ml9;cs9r9;cs99r9;cs99r99;c;cv9";
        for (int first = 1; first < 60; first += 19) {
            MuleSeasons due = Check.plainWithLaw(text, "y:1+g");
            due.turn(first);
            MuleSeasons x = Check.plainWithLaw(text, "y:1+g");
            x.turn(first);
            x.turn(40);
            for (int i = 0; i < 40; i++) {
                x.undo();
            }
            Check.due("none", x.undo(), -1);
            Check.due("all as it was behind " + first, Twin.all(withoutActs(x)).equals(Twin.all(withoutActs(due))), true);
        }
    }

    private static void undoRefused() {
        MuleSeasons x = Check.plain("sp0f0;ms0;m;c");
        x.reverse();
        x.turn(0);
        x.hay(1);
        x.grease(0);
        x.chip(0);
        x.buy();
        x.sow(0);
        x.decades(0, 1L);
        Check.due("ACTS", x.count(15), 1);
        Check.due("undo()", x.undo(), 0);
        Check.due("the way", x.count(8), 0);
    }

    private static void undoByHand() {
        Twin.Call[] acts = {x -> x.turn(1), x -> x.hay(2), x -> x.grease(1), x -> x.chip(1), x -> x.reverse(),
            x -> x.buy(), x -> x.sow(0), x -> x.decades(1, 5L)};
        for (int i = 0; i < acts.length; i++) {
            Twin.Call act = acts[i];
            Twin.unchanged("act " + i + " and undo", EdgeActTests::busy, x -> {
                Check.due("it is not refused", act.on(x) >= 0, true);
                Check.due("another ACT", x.count(15), 5);
                return x.undo();
            }, 4);
        }
    }

    private static MuleSeasons busy() {
        MuleSeasons x = Check.plainWithLaw("sf9h2p60;ml2g1s5r5;ml2;ml9;cs1r1;cs9r9;cs99r99", "y:2");
        x.set(0, 9);
        x.set(1, 9);
        x.turn(3);
        x.image();
        x.hay(3);
        x.hay(100);
        return x;
    }

    private static void undoThenAct() {
        MuleSeasons x = Check.plainWithLaw("sh0;m;m;c", "y:1");
        x.turn(50);
        for (int i = 0; i < 30; i++) {
            x.undo();
        }
        Check.due("ten left", x.count(15), 10);
        x.reverse();
        Check.due("eleven", x.count(15), 11);
        x.turn(29);
        Check.due("forty", x.count(15), 40);
        x.turn(1);
        Check.due("forty still", x.count(15), 40);
        Check.due("TURN", x.count(5), 50);
        for (int i = 0; i < 30; i++) {
            x.undo();
        }
        Check.due("TURN", x.count(5), 20);
        Check.due("the way", x.count(8), 1);
        x.undo();
        Check.due("the way", x.count(8), 0);
        for (int i = 0; i < 9; i++) {
            x.undo();
        }
        Check.due("none", x.undo(), -1);
        Check.due("TURN", x.count(5), 11);
    }
}
