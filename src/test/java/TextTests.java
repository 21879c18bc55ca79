/** Promises 1 to 5, 9 and 10: the tape, plains and laws as texts, and what a law gives. */
public final class TextTests {
    private static final String PLAIN = "sm12f5h2p9;ml2s5r1p2;ml3s1r4p3;ml1g3;cs10r5v7;cs99v40";

    public static void main(String[] args) {
        Check.test("1 a new object", TextTests::fresh);
        Check.test("2 feed", TextTests::fed);
        Check.test("3 end", TextTests::ended);
        Check.test("4 fault of a plain: shape", TextTests::plainShape);
        Check.test("4 fault of a plain: numbers", TextTests::plainNumbers);
        Check.test("4 fault of a plain: how many", TextTests::plainCounts);
        Check.test("4 fault of a plain: blanks", TextTests::plainBlanks);
        Check.test("4 fault of a law: shape", TextTests::lawShape);
        Check.test("4 fault of a law: numbers and depth", TextTests::lawNumbers);
        Check.test("4 fault: no such sort", TextTests::noSort);
        Check.test("5 text: a plain", TextTests::plainText);
        Check.test("5 text: what stays with another plain", TextTests::anotherPlain);
        Check.test("5 text: laws", TextTests::lawText);
        Check.test("9 law", TextTests::lawThatHolds);
        Check.test("10 pull without a law", TextTests::pullWithout);
        Check.test("10 pull: sums", TextTests::sums);
        Check.test("10 pull: conditions", TextTests::conditions);
        Check.test("10 pull: letters", TextTests::letters);
        Check.end();
    }

    private static void fresh() {
        MuleSeasons x = new MuleSeasons();
        Check.due("pull", x.pull(), -1);
        Check.due("rule", x.rule(0), -1);
        Check.due("month", x.month(0, 0), -1);
        Check.noSuch("crop", () -> x.crop(0, 0));
        for (int what = 0; what < 16; what++) {
            Check.due("count(" + what + ")", x.count(what), what == 4 ? -1 : 0);
        }
        for (int what = 0; what < 5; what++) {
            Check.due("status(" + what + ")", x.status(what), 0);
        }
    }

    private static void fed() {
        MuleSeasons x = new MuleSeasons();
        Check.due("nothing", x.feed(0, 0, 0, 0, 0), 0);
        Check.due("highest first, zeros left out", x.feed(0x6d003b00, 0x6d3b, 0x63000000, 0, 0), 5);
        Check.due("it is m;m;c", x.fault(0), -1);
        Check.due("a byte above 127", x.feed(0xff000000, 0, 0, 0, 0), 6);
        Check.due("it is read", x.fault(0), 5);
        MuleSeasons y = new MuleSeasons();
        int ones = 0x20202020;
        for (int i = 1; i <= 11; i++) {
            Check.due("twenty more", y.feed(ones, ones, ones, ones, ones), 20 * i);
        }
        Check.due("to 239", y.feed(ones, ones, ones, ones, 0x202020), 239);
        Check.due("more than 240", y.feed(0x2020, 0, 0, 0, 0), -1);
        Check.due("still", y.count(3), 239);
        Check.due("240", y.feed(0x20000000, 0, 0, 0, 0), 240);
        Check.due("nothing more", y.feed(0, 0, 0, 0, 0), 240);
        Check.due("241", y.feed(0, 0, 0, 0, 1), -1);
        Check.due("all blank", y.fault(0), 240);
        Check.due("all blank, a law", y.fault(1), 240);
    }

    private static void ended() {
        MuleSeasons x = new MuleSeasons();
        Check.due("end(0) of none", x.end(0), true);
        Check.due("end(1) of none", x.end(1), false);
        Check.type(x, "m;m;c;x");
        Check.due("below", x.end(-1), false);
        Check.due("above", x.end(8), false);
        Check.due("still", x.count(3), 7);
        Check.due("all", x.end(7), true);
        Check.due("still 7", x.count(3), 7);
        Check.due("fewer", x.end(5), true);
        Check.due("five", x.count(3), 5);
        Check.due("it is m;m;c", x.fault(0), -1);
        Check.due("what is behind is gone", x.feed(0, 0, 0, 0, 0x3b), 6);
        Check.due("m;m;c;", x.fault(0), 6);
    }

    private static void plain(String text, int want) {
        Check.due(text, Check.faultOf(0, text), want);
    }

    private static void law(String text, int want) {
        Check.due(text, Check.faultOf(1, text), want);
    }

    private static void plainShape() {
        plain(PLAIN, -1);
        plain("", 0);
        plain("m;m;c", -1);
        plain("c;m;m;s", -1);
        plain("c;m;s;m", -1);
        plain(";", 0);
        plain("m;;m;c", 2);
        plain("m;m;c;", 6);
        plain("M;m;c", 0);
        plain("m,m;c", 1);
        plain("m;m;cs", 6);
        plain("m;m;csr", 6);
        plain("m;m;cs;", 6);
        plain("m;m;cs5s5", 7);
        plain("m;m;cs5x5", 7);
        plain("mr1l1s1g1p1;mp2g2;cv1r1s1", -1);
        plain("mr1l1s1g1p1l", 11);
        plain("mf1", 1);
        plain("sl1", 1);
        plain("cm1", 1);
        plain("m;m;c" + (char) 200, 5);
    }

    private static void plainNumbers() {
        plain("sm1;m;m;c", -1);
        plain("sm30;m;m;c", -1);
        plain("sm0;m;m;c", 2);
        plain("sm00;m;m;c", 3);
        plain("sm01;m;m;c", -1);
        plain("sm31;m;m;c", 3);
        plain("sm311;m;m;c", 4);
        plain("sm000;m;m;c", 4);
        plain("sm012", 4);
        plain("sf99h9p99;m;m;c", -1);
        plain("sf0h0p0;m;m;c", -1);
        plain("sf100", 4);
        plain("sh10", 3);
        plain("sh09;m;m;c", -1);
        plain("sp990", 4);
        plain("ml9g9s9r9p9;m;c", -1);
        plain("ml1g0s0r0p1;m;c", -1);
        plain("ml0", 2);
        plain("ml10", 3);
        plain("mg10", 3);
        plain("ms10", 3);
        plain("mr10", 3);
        plain("mp0", 2);
        plain("mp10", 3);
        plain("m;m;cs0r0v0", -1);
        plain("m;m;cs99r99v99", -1);
        plain("m;m;cv100", 8);
        plain("ml0x", 2);
    }

    private static void plainCounts() {
        plain("m;m", 3);
        plain("m;c", 3);
        plain("m;c ", 4);
        plain("s", 1);
        plain("s;s", 2);
        plain("m;m;c;s;s", 8);
        plain("m;m;m;m;m;m;m;m;c", -1);
        plain("m;m;m;m;m;m;m;m;m", 16);
        plain("c;c;c;c;c;m;m", -1);
        plain("c;c;c;c;c;c", 10);
    }

    private static void plainBlanks() {
        plain("  m ;  m l 2 g 3;c s 1 r 22 ", -1);
        plain("m;m;c ", -1);
        plain("m;m;cs1 2", 8);
        plain("sm 3 1;m;m;c", 5);
        plain("sm 31", 4);
        plain("   ", 3);
        plain("m;m;c\t", 5);
    }

    private static void lawShape() {
        law("", 0);
        law("y:m", -1);
        law("x:m", 0);
        law("y;m", 1);
        law("y:", 2);
        law("y:a", 2);
        law("y:m;", 4);
        law("y:m;y:f", -1);
        law("y:m;x", 4);
        law("y:m+", 4);
        law("y:m+-1", 4);
        law("y:-1", 2);
        law("y:m?1", 3);
        law("y:m>1", 5);
        law("y:m>1;", 5);
        law("y:m>1?", 6);
        law("y:m>1?2", -1);
        law("y:m>1>2?3", 5);
        law("y:m>1&f<2|g=3?l*d/k", -1);
        law("y:m>1&?1", 6);
        law("y:m>1&2?1", 7);
        law("y:m&1", 3);
        law("y:!m", 4);
        law("y:!m=1?2", -1);
        law("y:!(m=1)?2", -1);
        law("y:(m=1)", 7);
        law("y:(m)", 4);
        law("y:(m=1?", 6);
        law("y:(m=1)+1", 7);
        law("y:(m=1)&!!(k=0|l<2)?1", -1);
        law("y:m=(1)", 4);
        law("y:m=1?(1)", 6);
        law("y:m=1?!1", 6);
        law("y:[m+1]*2", -1);
        law("y:[m+1)", 6);
        law("y:[m=1]", 4);
        law("y:[m]=[f]?[g]", -1);
        law("y:m=1?2?3", 7);
        law("y:m=1?2=3", 7);
        law("y:mf", 3);
        law("y:m 1", 4);
        law(" y : m > 1 ? 2 ; y : [ 3 ] ", -1);
        law("y:M", 2);
        law("y:y", 2);
    }

    private static void lawNumbers() {
        law("y:9999", -1);
        law("y:0000", -1);
        law("y:10000", 6);
        law("y:00001", 6);
        law("y:123456", 6);
        law("y:1 2", 4);
        law("y:[[[[[[1]]]]]]", -1);
        law("y:[[[[[[[1", 8);
        law("y:!!!!!!m=1?1", -1);
        law("y:!!!!!!!m", 8);
        law("y:((((((m=1))))))?1", -1);
        law("y:(((((((", 8);
        law("y:!(!(!([m", 8);
        law("y:!(!(![m", 9);
        law("y:!(!(![m]=1))?1", -1);
        law("y:!(!(!(m=1)))?[[[[[[1]]]]]]", -1);
        law("y:!!!m=1&!!!!!!m=2?1", -1);
        law("y:m=1&!!!!!!!", 12);
        law("y:[1]+[[[[[[1]]]]]]", -1);
        law("y:!!!!!!m=[1", 10);
    }

    private static void noSort() {
        MuleSeasons x = Check.plain("m;m;c");
        Check.due("fault(2)", x.fault(2), -2);
        Check.due("fault(-1)", x.fault(-1), -2);
        Check.due("text(2)", x.text(2), -1);
        Check.due("text(-1)", x.text(-1), -1);
    }

    private static void plainText() {
        MuleSeasons x = new MuleSeasons();
        Check.due("no plain of nothing", x.text(0), -1);
        Check.type(x, "sm3;m;m;c");
        Check.due("no fault", x.fault(0), -1);
        Check.due("no fault again", x.fault(0), -1);
        x.end(0);
        Check.type(x, "m;m;m;m;cx");
        Check.due("a fault", x.text(0), -1);
        Check.due("the tape stays", x.count(3), 10);
        Check.due("no months yet", x.count(0), 0);
        x.end(9);
        Check.due("how many", x.text(0), 4);
        Check.due("the tape is empty", x.count(3), 0);
        Check.due("months", x.count(0), 4);
        Check.due("crops", x.count(1), 1);
        int[] rules = {12, 30, 2, 10};
        int[] month = {3, 0, 3, 3, 4};
        int[] crop = {10, 10, 10, 0, 0, 0};
        for (int i = 0; i < 4; i++) {
            Check.due("rule without", x.rule(i), rules[i]);
        }
        for (int i = 0; i < 5; i++) {
            Check.due("month without", x.month(3, i), month[i]);
        }
        for (int i = 0; i < 6; i++) {
            Check.due("crop without", x.crop(0, i), crop[i]);
        }
        Check.type(x, "y:1");
        Check.due("a law is no plain", x.text(0), -1);
        Check.due("the one ahead stays", x.count(0), 4);
    }

    private static void anotherPlain() {
        MuleSeasons x = Check.plainWithLaw(PLAIN, "y:3");
        x.set(0, 4);
        x.set(1, 5);
        x.turn(4);
        x.reverse();
        x.turn(0);
        x.seen(1, 1, true);
        x.image();
        Check.type(x, "m;m;c");
        Check.due("another", x.text(0), 2);
        int[] want = {2, 1, 1, 0, 0, 0, 0, 0, 0, 0, 0, 4, 5, 0, 0, 0};
        for (int what = 0; what < 16; what++) {
            Check.due("count(" + what + ")", x.count(what), want[what]);
        }
        Check.due("status stays", x.status(1), 1);
        Check.due("the law stays", x.pull(), 3);
        Check.due("no image", x.back(), -1);
        Check.due("no act", x.undo(), -1);
        Check.due("no log", x.log(0, 0), -1);
        Check.due("no crop of the other one", x.most(2), 0);
        Check.noSuch("crop(1, 0)", () -> x.crop(1, 0));
    }

    private static void lawText() {
        MuleSeasons x = new MuleSeasons();
        for (int i = 0; i < 4; i++) {
            Check.type(x, "y:" + (i + 1));
            Check.due("a law", x.text(1), i);
            Check.due("the tape is empty", x.count(3), 0);
        }
        Check.type(x, "y:5");
        Check.due("there are four", x.text(1), -1);
        Check.due("the tape stays", x.count(3), 3);
        Check.due("four", x.count(2), 4);
        Check.due("none holds", x.count(4), -1);
        x.end(0);
        Check.type(x, "m;m;c");
        x.text(0);
        for (int i = 0; i < 4; i++) {
            x.law(i);
            Check.due("its own", x.pull(), i + 1);
        }
        MuleSeasons y = new MuleSeasons();
        Check.type(y, "y:m>?");
        Check.due("a fault", y.text(1), -1);
        Check.due("none", y.count(2), 0);
    }

    private static void lawThatHolds() {
        MuleSeasons x = new MuleSeasons();
        Check.due("none", x.law(-1), true);
        Check.due("no such one", x.law(0), false);
        Check.type(x, "y:7");
        x.text(1);
        Check.due("law(0)", x.law(0), true);
        Check.due("again", x.law(0), true);
        Check.due("holds", x.count(4), 0);
        Check.due("law(1)", x.law(1), false);
        Check.due("law(-2)", x.law(-2), false);
        Check.due("still", x.count(4), 0);
        Check.type(x, "m;m;c");
        x.text(0);
        Check.due("pull", x.pull(), 7);
        Check.due("none again", x.law(-1), true);
        Check.due("none holds", x.count(4), -1);
        Check.due("pull without", x.pull(), 2);
    }

    private static void pullWithout() {
        Check.due("12", Check.plain("m;m;c").pull(), 2);
        Check.due("11, cut", Check.plain("sm11;m;m;c").pull(), 1);
        Check.due("1", Check.plain("sm1;m;m;c").pull(), 0);
        Check.due("30 and 9", Check.plain("sm30;mg9;m;c").pull(), 8);
        Check.due("12 and 3", Check.plain("mg3;mg9;c").pull(), 3);
        MuleSeasons x = Check.plain("sm1f0h1;mg9;m;c");
        Check.due("as it begins", x.pull(), 3);
        x.turn(1);
        Check.due("dead", x.rule(0), 0);
        Check.due("dead pulls none", x.pull(), 0);
        Check.addLaw(x, "y:5");
        Check.due("dead by a law too", x.pull(), 0);
    }

    private static void pulls(String law, int want) {
        Check.due(law, Check.plainWithLaw("sm12f30;ml3g2;m;c", law).pull(), want);
    }

    private static void sums() {
        pulls("y:9-2-3", 4);
        pulls("y:8/2/2", 2);
        pulls("y:2+3*2", 8);
        pulls("y:[2+3]*1", 5);
        pulls("y:9-[3-1]", 7);
        pulls("y:7/0", 0);
        pulls("y:3+[7/[2-2]]", 3);
        pulls("y:[0-7]/2+9", 6);
        pulls("y:20", 9);
        pulls("y:0-5", 0);
        pulls("y:9999*9999/1000/1000", 1);
        pulls("y:[0-9999*9999]/1000/1000+9", 8);
        pulls("y:9999*9999+9999*9999-9999*9999", 0);
        pulls("y:[0-9999*9999-9999]/1000/1000+9", 8);
        pulls("y:0007", 7);
        pulls("y:9999*9999=1000*1000?5;y:2", 5);
        pulls("y:0-9999*9999=0-1000*1000?5;y:2", 5);
        pulls("y:9999*100+100=1000*1000?5;y:2", 5);
        pulls(" y : 1 + 2 * [ 1 + 1 ] ", 5);
    }

    private static void conditions() {
        pulls("y:m>12?1;y:m=12?2;y:3", 2);
        pulls("y:m<12|f>29?4;y:5", 4);
        pulls("y:m=12&f<30|k=0?6;y:7", 6);
        pulls("y:k=1|m=12&f<30?6;y:7", 7);
        pulls("y:!m=12?1;y:2", 2);
        pulls("y:!(m=1|m=2)?3;y:4", 3);
        pulls("y:!!m=12?5;y:6", 5);
        pulls("y:!m=1&f=30?8;y:1", 8);
        pulls("y:(m=1|f=30)&(k=0|l=1)?8;y:1", 8);
        pulls("y:m=1?5", 0);
        pulls("y:1<1?5;y:2", 2);
        pulls("y:1>1?5;y:2", 2);
        pulls("y:m+1=13?5;y:2", 5);
        pulls("y:[m+1]*2=26?5;y:2", 5);
        pulls("y:4;y:5", 4);
        pulls("y:m<13&f=30?6;y:1", 6);
        pulls("y:m>11&f=30?6;y:1", 6);
        pulls("y:!m>12&f=30?6;y:1", 6);
    }

    private static void letters() {
        pulls("y:m-10", 2);
        pulls("y:f-25", 5);
        pulls("y:g", 2);
        pulls("y:l", 3);
        pulls("y:d", 0);
        pulls("y:k", 0);
        MuleSeasons x = Check.plainWithLaw("sm12f30h5;ml1;ml5g4;c", "y:3");
        x.turn(1);
        Check.addLaw(x, "y:d");
        Check.due("its day", x.pull(), 2);
        Check.addLaw(x, "y:k");
        Check.due("the number of the month", x.pull(), 1);
        Check.addLaw(x, "y:l+g-f/10");
        Check.due("of that month, feed 25", x.pull(), 7);
    }
}
