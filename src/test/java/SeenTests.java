/** Promises 35 to 37: what was seen, who was greased by it, and when to look next. */
public final class SeenTests {
    // One day a turn and one more for each grease of the month it is in.
    private static final String PLAIN = "sh0;ml3;ml5;ml4;c";
    private static final String LAW = "y:1+g";

    public static void main(String[] args) {
        Check.test("35 seen", SeenTests::seen);
        Check.test("36 who: all that is seen", SeenTests::who);
        Check.test("36 who: from the plain as told", SeenTests::asTold);
        Check.test("36 who: nine at most", SeenTests::nineAtMost);
        Check.test("36 who: refused", SeenTests::whoRefused);
        Check.test("37 best", SeenTests::best);
        Check.test("35 to 37 behind forty turns", SeenTests::fortieth);
        Check.test("37 best: nothing fits", SeenTests::nothingFits);
        Check.end();
    }

    private static void seen() {
        MuleSeasons x = new MuleSeasons();
        Check.due("no plain", x.seen(1, 0, true), -1);
        Check.type(x, PLAIN);
        x.text(0);
        Check.due("n 0", x.seen(0, 0, true), -1);
        Check.due("n 41", x.seen(41, 0, true), -1);
        Check.due("no such month", x.seen(1, 3, true), -1);
        Check.due("no such month", x.seen(1, -1, true), -1);
        for (int i = 1; i <= 10; i++) {
            Check.due("seen", x.seen(i * 4, i % 3, i % 2 == 0), i);
        }
        Check.due("there are ten", x.seen(1, 0, true), -1);
        Check.due("ten", x.count(13), 10);
        Check.due("no act", x.count(15), 0);
        Check.due("no status", x.status(0) + x.status(1), 0);
    }

    private static void suspects(MuleSeasons x, int g, int... want) {
        Check.due("how many", x.who(g, -1), want.length);
        for (int i = 0; i < want.length; i++) {
            Check.due("who " + i, x.who(g, i), want[i]);
        }
        Check.due("no more", x.who(g, want.length), -1);
    }

    private static void who() {
        // Days behind n turns, g 1: of 0: 2 4(month 1) 5 6 7 8(month 2); of 1: 1 2 3 5 7 9(2); of none: 1 2 3 4 .. 8(2).
        MuleSeasons x = Check.plainWithLaw(PLAIN, LAW);
        suspects(x, 1, 0, 1, 2, 9);
        x.seen(2, 0, true);
        suspects(x, 1, 1, 2, 9);
        x.seen(6, 2, true);
        suspects(x, 1, 1);
        suspects(x, 5, 1);
        x.seen(6, 1, false);
        suspects(x, 1, 1);
        x.seen(6, 1, true);
        suspects(x, 1);
        MuleSeasons y = Check.plainWithLaw(PLAIN, LAW);
        y.seen(2, 0, false);
        suspects(y, 1, 0);
        MuleSeasons z = Check.plainWithLaw(PLAIN, LAW);
        z.seen(6, 2, false);
        suspects(z, 1, 2, 9);
        // With 1 more of month 2 its four days (8 9 10 11) go by in two turns: 8 10 12.
        z.seen(10, 0, true);
        suspects(z, 1, 2);
    }

    private static void asTold() {
        MuleSeasons x = Check.plainWithLaw(PLAIN, LAW);
        x.seen(2, 0, true);
        x.seen(6, 2, true);
        x.grease(0);
        x.grease(1);
        x.reverse();
        x.turn(7);
        x.image();
        x.back();
        suspects(x, 1, 1);
        Check.due("undone is nothing of it", x.undo(), -1);
        suspects(x, 1, 1);
        x.law(-1);
        // Without a law 2 days a turn, whoever is greased by 1: day 4 is of month 1.
        suspects(x, 1);
    }

    private static void nineAtMost() {
        MuleSeasons x = Check.plainWithLaw("sh0;ml9g8;ml9g9;m;c", "y:g");
        x.seen(1, 0, true);
        // From 8 on it is nine, and day 9 is of month 1.
        suspects(x, 5, 1, 2, 9);
        suspects(x, 1, 1, 2, 9);
        MuleSeasons y = Check.plainWithLaw("sh0;ml9g9;ml9;m;c", "y:g>9?1;y:9");
        y.seen(1, 0, true);
        suspects(y, 3);
    }

    private static void whoRefused() {
        Check.due("no plain", new MuleSeasons().who(1, -1), -1);
        MuleSeasons x = Check.plainWithLaw(PLAIN, LAW);
        Check.due("g 0", x.who(0, -1), -1);
        Check.due("g 6", x.who(6, -1), -1);
        Check.due("i -2", x.who(1, -2), -1);
        Check.due("i 4", x.who(1, 4), -1);
        Check.due("i greatest", x.who(1, Integer.MAX_VALUE), -1);
        MuleSeasons y = Check.plainWithLaw("sh0;m;m;m;m;m;m;m;m;c", "y:0");
        suspects(y, 5, 0, 1, 2, 3, 4, 5, 6, 7, 9);
    }

    private static void best() {
        MuleSeasons x = Check.plainWithLaw(PLAIN, LAW);
        // Behind 2 turns it is month 1 by 0, month 0 by 1, 2 and none; behind 6 month 2 by 0 and 1, month 1 by 2 and none.
        Check.due("two and two", x.best(1), 6);
        x.seen(2, 0, true);
        x.seen(6, 1, true);
        // 2 and none are left: 8 10 12 behind 8 9 10 turns against 8 9 10.
        Check.due("the first that tells them apart", x.best(1), 10);
        x.seen(10, 0, true);
        Check.due("one left: any", x.best(1), 1);
        Check.due("no plain", new MuleSeasons().best(1), -1);
        Check.due("g 0", x.best(0), -1);
        Check.due("g 6", x.best(6), -1);
        MuleSeasons y = Check.plainWithLaw(PLAIN, LAW);
        Check.due("g 0", y.best(0), -1);
        Check.due("g 6", y.best(6), -1);
        Check.due("g 5", y.best(5) > 0, true);
        Check.due("all alike", Check.plainWithLaw("m;m;c", "y:0").best(5), 1);
    }

    /** Behind 40 turns alone the sixth month tells itself, when the five ahead of it are seen to be as told. */
    private static void fortieth() {
        MuleSeasons x = Check.plainWithLaw("sh0;ml9;ml9;ml9;ml9;ml3;ml2;ml9;c", "y:1+g");
        x.seen(8, 0, true);
        x.seen(17, 1, true);
        x.seen(26, 2, true);
        x.seen(35, 3, true);
        x.seen(38, 4, true);
        suspects(x, 1, 5, 6, 9);
        Check.due("the last one", x.best(1), 40);
        x.seen(40, 6, true);
        suspects(x, 1, 5);
    }

    private static void nothingFits() {
        MuleSeasons x = Check.plainWithLaw(PLAIN, LAW);
        x.seen(1, 2, true);
        Check.due("none", x.who(1, -1), 0);
        Check.due("nothing fits", x.best(1), -1);
    }
}
