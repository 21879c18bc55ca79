/** The edges of LAWS as TEXTS: the terms, and promises 4, 5, 9 and 10. */
public final class EdgeLawTests {
    private static final String PLAIN = "sm12f30;ml3g2;m;c";
    private static final String MILLION = "1000*1000";
    // 999,900 and 100 more.
    private static final String NEAR = "9999*100";

    public static void main(String[] args) {
        Check.test("term LAW: CLAUSES with ; between, one at least", EdgeLawTests::clauses);
        Check.test("term LAW: y, :", EdgeLawTests::heads);
        Check.test("term LAW: perhaps CONDITION ?, then SUM", EdgeLawTests::question);
        Check.test("term LAW: a CLAUSE that goes on with ! or ( has a CONDITION", EdgeLawTests::goesOn);
        Check.test("term LAW: UNIT is SUM, one of = < >, SUM", EdgeLawTests::comparisons);
        Check.test("term LAW: TRUTHS with |, UNITS with & between", EdgeLawTests::truths);
        Check.test("term LAW: TERMS with + or -, ATOMS with * or / between", EdgeLawTests::terms);
        Check.test("term LAW: a number, 1 to 4 digits", EdgeLawTests::digits);
        Check.test("term LAW: a letter (m f g l d k)", EdgeLawTests::letters);
        Check.test("term LAW: [ SUM ]", EdgeLawTests::brackets);
        Check.test("term LAW: at most six of [ within one another", EdgeLawTests::sixBrackets);
        Check.test("term LAW: at most six of ( within one another", EdgeLawTests::sixParentheses);
        Check.test("term LAW: at most six of ! within one another", EdgeLawTests::sixNots);
        Check.test("term LAW: at most six of all three within one another", EdgeLawTests::sixMixed);
        Check.test("term LAW: beside one another is not within", EdgeLawTests::beside);
        Check.test("term LAW: within 1,000,000 behind +", EdgeLawTests::heldPlus);
        Check.test("term LAW: within -1,000,000 behind -", EdgeLawTests::heldMinus);
        Check.test("term LAW: within both behind *", EdgeLawTests::heldTimes);
        Check.test("term LAW: / cuts towards 0", EdgeLawTests::cuts);
        Check.test("term LAW: / by 0 gives 0", EdgeLawTests::byZero);
        Check.test("term WORTH: the first CLAUSE whose CONDITION holds, or has none", EdgeLawTests::worthFirst);
        Check.test("term WORTH: 0 without", EdgeLawTests::worthWithout);
        Check.test("term LAW: as long as the TAPE", EdgeLawTests::longest);
        Check.test("term FAULT: the length, if a LAW ends too early", EdgeLawTests::tooEarly);
        Check.test("term FAULT: each other byte of a LAW, at it", EdgeLawTests::otherBytes);
        Check.test("term FAULT: Blanks between all signs of a LAW", EdgeLawTests::blanks);
        Check.test("5 text: a LAW, its number; there are four LAWS", EdgeLawTests::fourLaws);
        Check.test("5 text: LAWS without a PLAIN", EdgeLawTests::withoutPlain);
        Check.test("9 law: NONE none", EdgeLawTests::noneHolds);
        Check.test("9 law: no such one", EdgeLawTests::noSuchLaw);
        Check.test("10 pull: WORTH held within 0 .. 9", EdgeLawTests::pullHeld);
        Check.test("10 pull: none at first, by 6, cut", EdgeLawTests::pullCut);
        Check.test("10 pull: 0, if the MULE is DEAD", EdgeLawTests::pullDead);
        Check.test("10 pull: no PLAIN", EdgeLawTests::pullNone);
        Check.test("10 pull: the letters, as it begins", EdgeLawTests::pullLetters);
        Check.end();
    }

    /** No such TEXT: the fault is there, and the laws ahead of it and the tape stay. */
    private static void fault(String law, int at) {
        Check.due("fault(1) of " + law, Check.faultOf(1, law), at);
        Twin.unchanged("text(1) of " + law, () -> typed(law), x -> x.text(1), -1);
    }

    private static MuleSeasons typed(String law) {
        MuleSeasons x = Check.plainWithLaw(PLAIN, "y:4");
        Check.type(x, law);
        return x;
    }

    /** Such a TEXT: a law by which the mule pulls so. */
    private static void pulls(String law, int want) {
        Check.due("fault(1) of " + law, Check.faultOf(1, law), -1);
        MuleSeasons x = typed(law);
        Check.due("text(1) of " + law, x.text(1), 1);
        x.law(1);
        Check.due("pull() by " + law, x.pull(), want);
    }

    private static void clauses() {
        fault("", 0);
        fault(";", 0);
        pulls("y:1", 1);
        pulls("y:1;y:2", 1);
        fault("y:1;", 4);
        fault(";y:1", 0);
        fault("y:1;;y:2", 4);
        fault("y:1 y:2", 4);
        fault("y:1,y:2", 3);
        pulls("y:0=1?1;y:0=1?2;y:0=1?3;y:0=1?4;y:5", 5);
    }

    private static void heads() {
        fault("m", 0);
        fault(":1", 0);
        fault("y", 1);
        fault("y1", 1);
        fault("y;", 1);
        fault("y:", 2);
        fault("yy:1", 1);
        fault("y::1", 2);
        fault("Y:1", 0);
        fault("y:1;x:1", 4);
        fault("y:1;y", 5);
    }

    private static void question() {
        pulls("y:m=12?1", 1);
        fault("y:m=12", 6);
        fault("y:m=12;y:1", 6);
        fault("y:m=12?", 7);
        fault("y:m=12?;y:1", 7);
        fault("y:m?1", 3);
        fault("y:?1", 2);
        fault("y:m=12?1?2", 8);
        fault("y:m=12?1=1", 8);
        fault("y:m=12?m=12?1", 8);
        fault("y:m=12?(1)", 7);
        fault("y:m=12?!1", 7);
        pulls("y:m=12?[1]", 1);
    }

    private static void goesOn() {
        pulls("y:!m=1?3", 3);
        pulls("y:(m=12)?3", 3);
        fault("y:!m", 4);
        fault("y:(m)", 4);
        fault("y:!m=1", 6);
        fault("y:(m=12)", 8);
        fault("y:(m=12)+1", 8);
        fault("y:(m=12)=1?1", 8);
        fault("y:(1+1)*2", 6);
        fault("y:!(m)?1", 5);
        pulls("y:[m]=12?3", 3);
        pulls("y:[m]-9", 3);
        pulls("y: (m=12)?3", 3);
    }

    private static void comparisons() {
        pulls("y:m=12?1;y:2", 1);
        pulls("y:m=11?1;y:2", 2);
        pulls("y:m=13?1;y:2", 2);
        pulls("y:m<13?1;y:2", 1);
        pulls("y:m<12?1;y:2", 2);
        pulls("y:m>11?1;y:2", 1);
        pulls("y:m>12?1;y:2", 2);
        pulls("y:0-1<0?1;y:2", 1);
        pulls("y:0-1>0?1;y:2", 2);
        fault("y:=1?1", 2);
        fault("y:m=?1", 4);
        fault("y:m==1?1", 4);
        fault("y:m<=1?1", 4);
        fault("y:m>1>2?1", 5);
        fault("y:m=1=1?1", 5);
    }

    private static void truths() {
        pulls("y:m=12|m=1?1;y:2", 1);
        pulls("y:m=1|m=12?1;y:2", 1);
        pulls("y:m=1|m=2?1;y:2", 2);
        pulls("y:m=12&f=30?1;y:2", 1);
        pulls("y:m=12&f=1?1;y:2", 2);
        pulls("y:m=1&f=30?1;y:2", 2);
        // & binds ahead of |.
        pulls("y:m=12|f=1&g=1?1;y:2", 1);
        pulls("y:(m=12|f=1)&g=1?1;y:2", 2);
        pulls("y:m=1&f=1|g=2?1;y:2", 1);
        pulls("y:m=1&(f=1|g=2)?1;y:2", 2);
        pulls("y:!m=12|f=30?1;y:2", 1);
        pulls("y:!(m=12|f=30)?1;y:2", 2);
        pulls("y:!m=1&f=1?1;y:2", 2);
        fault("y:m=1|?1", 6);
        fault("y:m=1&?1", 6);
        fault("y:|m=1?1", 2);
        fault("y:&m=1?1", 2);
        fault("y:m=1||m=2?1", 6);
        fault("y:m=1&&m=2?1", 6);
        fault("y:m|f=1?1", 3);
        fault("y:m=1|f?1", 7);
        fault("y:m=1&f;y:1", 7);
    }

    private static void terms() {
        pulls("y:9-3-2", 4);
        pulls("y:9-3+2", 8);
        pulls("y:1+2*3", 7);
        pulls("y:9-2*3", 3);
        pulls("y:8/4/2", 1);
        pulls("y:9/2*2", 8);
        pulls("y:1+8/4", 3);
        fault("y:+1", 2);
        fault("y:-1", 2);
        fault("y:*1", 2);
        fault("y:/1", 2);
        fault("y:1+", 4);
        fault("y:1*", 4);
        fault("y:1+;", 4);
        fault("y:1+*1", 4);
        fault("y:1--1", 4);
        fault("y:1/-1", 4);
        fault("y:1%2", 3);
    }

    private static void digits() {
        fault("y:", 2);
        pulls("y:7", 7);
        pulls("y:07", 7);
        pulls("y:0007", 7);
        pulls("y:9999-9998", 1);
        fault("y:00007", 6);
        fault("y:99999", 6);
        fault("y:10000", 6);
        fault("y:100000", 6);
        fault("y:m=10000?1", 8);
        fault("y:m=1?10000", 10);
        fault("y:1+[10000", 9);
        fault("y:1234 5", 7);
        fault("y:m1", 3);
        fault("y:1m", 3);
    }

    private static void letters() {
        pulls("y:m-9", 3);
        pulls("y:f-28", 2);
        pulls("y:g", 2);
        pulls("y:l", 3);
        pulls("y:d+6", 6);
        pulls("y:k+5", 5);
        fault("y:mf", 3);
        fault("y:m f", 4);
        fault("y:a", 2);
        fault("y:s", 2);
        fault("y:M", 2);
        fault("y:y", 2);
        fault("y:mm", 3);
    }

    private static void brackets() {
        pulls("y:[4]", 4);
        pulls("y:9-[4-2]", 7);
        pulls("y:[1+2]*2", 6);
        fault("y:[]", 3);
        fault("y:[4", 4);
        fault("y:4]", 3);
        fault("y:[4)", 4);
        fault("y:[4;", 4);
        fault("y:[m=12]", 4);
        fault("y:[[4]", 6);
        fault("y:[4]]", 5);
        fault("y:[4]4", 5);
        fault("y:4[4]", 3);
    }

    private static void sixBrackets() {
        pulls("y:[[[[[5]]]]]", 5);
        pulls("y:[[[[[[5]]]]]]", 5);
        fault("y:[[[[[[[5]]]]]]]", 8);
        pulls("y:[1+[1+[1+[1+[1+[1]]]]]]", 6);
        fault("y:[1+[1+[1+[1+[1+[1+[1]]]]]]]", 20);
        pulls("y:m=12?[[[[[[5]]]]]]", 5);
        fault("y:m=12?[[[[[[[5]]]]]]]", 13);
        pulls("y:[[[[[[m]]]]]]=[[[[[[12]]]]]]?5", 5);
        fault("y:m=[[[[[[[12]]]]]]]?5", 10);
    }

    private static void sixParentheses() {
        pulls("y:(((((m=12)))))?5", 5);
        pulls("y:((((((m=12))))))?5", 5);
        fault("y:(((((((m=12)))))))?5", 8);
        pulls("y:m=12&((((((m=12))))))?5", 5);
        fault("y:m=12&(((((((m=12)))))))?5", 13);
    }

    private static void sixNots() {
        pulls("y:!!!!!m=12?5;y:6", 6);
        pulls("y:!!!!!!m=12?5;y:6", 5);
        fault("y:!!!!!!!m=12?5", 8);
        pulls("y:m=1|!!!!!!m=12?5;y:6", 5);
        fault("y:m=1|!!!!!!!m=12?5", 12);
    }

    private static void sixMixed() {
        pulls("y:!(!(!(m=12)))?5;y:6", 6);
        fault("y:!(!(!(!m=12)))?5", 8);
        fault("y:!(!(!((m=12))))?5", 8);
        fault("y:!(!(!([m]=12)))?5", 8);
        pulls("y:!(!(![m]=12))?5;y:6", 6);
        fault("y:!(!(![[m]]=12))?5", 8);
        pulls("y:(((([[m]]=12))))?5", 5);
        fault("y:(((([[[m]]]=12))))?5", 8);
        pulls("y:(((([[m]]=[[12]]))))?[[[[[[5]]]]]]", 5);
        fault("y:((((m=[[[12]]]))))?5", 10);
        pulls("y:![[[[[m]]]]]=12?5;y:6", 6);
        fault("y:![[[[[[m]]]]]]=12?5", 8);
    }

    private static void beside() {
        pulls("y:[[[[[[1]]]]]]+[[[[[[2]]]]]]*[[[[[[2]]]]]]", 5);
        pulls("y:((((((m=12))))))&((((((m=12))))))|((((((m=1))))))?5", 5);
        pulls("y:!!!!!!m=12&!!!!!!f=30?5", 5);
        pulls("y:(!!!!!m=12&!!!!!m=12)|[1]=1?5;y:6", 5);
        pulls("y:[1]+[1]+[1]+[1]+[1]+[1]+[1]+[1]", 8);
        pulls("y:[[[[[[1]]]]]];y:[[[[[[2]]]]]]", 1);
        fault("y:[[[[[[1]]]]]]+[[[[[[[1]]]]]]]", 22);
    }

    private static void heldPlus() {
        pulls("y:" + NEAR + "+99<" + MILLION + "?5;y:6", 5);
        pulls("y:" + NEAR + "+100=" + MILLION + "?5;y:6", 5);
        pulls("y:" + NEAR + "+101=" + MILLION + "?5;y:6", 5);
        pulls("y:" + NEAR + "+100-1=" + NEAR + "+99?5;y:6", 5);
        pulls("y:" + NEAR + "+101-1=" + NEAR + "+99?5;y:6", 5);
        pulls("y:" + MILLION + "+" + MILLION + "=" + MILLION + "?5;y:6", 5);
        pulls("y:" + MILLION + "+1-" + MILLION, 0);
        // Held on the way: 999,999 and 9 are 1,000,000.
        pulls("y:" + NEAR + "+99+9-" + NEAR + "-99", 1);
        pulls("y:" + NEAR + "+99-9-" + NEAR + "-85", 5);
    }

    private static void heldMinus() {
        pulls("y:0-" + NEAR + "-99>0-" + MILLION + "?5;y:6", 5);
        pulls("y:0-" + NEAR + "-100=0-" + MILLION + "?5;y:6", 5);
        pulls("y:0-" + NEAR + "-101=0-" + MILLION + "?5;y:6", 5);
        pulls("y:0-" + NEAR + "-101+1=0-" + NEAR + "-99?5;y:6", 5);
        pulls("y:0-" + MILLION + "-" + MILLION + "=0-" + MILLION + "?5;y:6", 5);
        pulls("y:0-" + NEAR + "-99-9+" + NEAR + "+101", 1);
        pulls("y:" + MILLION + "-[0-" + MILLION + "]=" + MILLION + "?5;y:6", 5);
    }

    private static void heldTimes() {
        pulls("y:1000*999<" + MILLION + "?5;y:6", 5);
        pulls("y:1000*1000/1000/200", 5);
        pulls("y:1000*1001=" + MILLION + "?5;y:6", 5);
        pulls("y:1000*1001/1000/200", 5);
        pulls("y:9999*9999=" + MILLION + "?5;y:6", 5);
        pulls("y:9999*9999*9999*9999=" + MILLION + "?5;y:6", 5);
        pulls("y:[" + MILLION + "]*[" + MILLION + "]=" + MILLION + "?5;y:6", 5);
        pulls("y:[0-1000]*1001=0-" + MILLION + "?5;y:6", 5);
        pulls("y:[0-1000]*999>0-" + MILLION + "?5;y:6", 5);
        pulls("y:[0-9999*9999]*[9999*9999]=0-" + MILLION + "?5;y:6", 5);
        pulls("y:[0-9999*9999]*[0-9999*9999]=" + MILLION + "?5;y:6", 5);
        pulls("y:9999*9999/9999/20", 5);
    }

    private static void cuts() {
        pulls("y:7/2", 3);
        pulls("y:8/2", 4);
        pulls("y:1/2", 0);
        pulls("y:[0-7]/2+9", 6);
        pulls("y:7/[0-2]+9", 6);
        pulls("y:[0-7]/[0-2]", 3);
        pulls("y:[0-1]/2+5", 5);
        pulls("y:[0-8]/4+9", 7);
    }

    private static void byZero() {
        pulls("y:7/0", 0);
        pulls("y:0/0", 0);
        pulls("y:5+7/0", 5);
        pulls("y:5+[0-7]/[m-12]", 5);
        pulls("y:7/0=0?5;y:6", 5);
        pulls("y:7/[1/2]+5", 5);
        pulls("y:6/k+5", 5);
    }

    private static void worthFirst() {
        pulls("y:m=12?1;y:m=12?2;y:3", 1);
        pulls("y:m=1?1;y:m=12?2;y:3", 2);
        pulls("y:m=1?1;y:m=2?2;y:3", 3);
        pulls("y:4;y:m=12?2;y:3", 4);
        pulls("y:m=1?1;y:4;y:m=12?3", 4);
        pulls("y:m=12?0;y:5", 0);
    }

    private static void worthWithout() {
        pulls("y:m=1?9", 0);
        pulls("y:m=1?9;y:m=2?8;y:m=3?7", 0);
    }

    private static void longest() {
        String sum = "y:9" + "+1-1".repeat(59) + " ";
        Check.due("its bytes", sum.length(), 240);
        pulls(sum, 9);
        String clauses = "y:m<9?1;".repeat(29) + "y:5+1+1 ";
        Check.due("its bytes", clauses.length(), 240);
        pulls(clauses, 7);
        String atoms = "y:1" + "*1".repeat(118) + "+";
        Check.due("its bytes", atoms.length(), 240);
        fault(atoms, 240);
        // Each of the six goes on with a sum that waits, as deep as it can be.
        String deep = "y:(0=1|1=1&(0=1|1=1&(0=1|1=1&(0=1|1=1&(0=1|1=1&7=1+1*[1+1*5])))))?7;y:8";
        pulls(deep, 7);
        pulls("y:1+1*[1+1*[1+1*[1+1*[1+1*[1+1*[1+1]]]]]]", 8);
    }

    private static void tooEarly() {
        fault("", 0);
        fault("  ", 2);
        fault("y", 1);
        fault("y:", 2);
        fault("y: ", 3);
        fault("y:!", 3);
        fault("y:(", 3);
        fault("y:[", 3);
        fault("y:[1", 4);
        fault("y:[1+", 5);
        fault("y:(1", 4);
        fault("y:(1=1", 6);
        fault("y:(1=1)", 7);
        fault("y:1=", 4);
        fault("y:1=1", 5);
        fault("y:1=1|", 6);
        fault("y:1=1?", 6);
        fault("y:1;", 4);
        fault("y:1;y", 5);
        fault("y:1;y:", 6);
    }

    private static boolean isIn(String signs, int sign) {
        return signs.indexOf((char) sign) >= 0;
    }

    /** Each byte behind what stands ahead of it: one that goes on is no fault, though the text ends too early or ends. */
    private static void behind(String ahead, String goesOn) {
        for (int sign = 1; sign < 256; sign++) {
            int got = Check.faultOf(1, ahead + (char) sign);
            if (isIn(goesOn, sign)) {
                boolean on = got == -1 || got == ahead.length() + 1;
                Check.due("fault behind " + ahead + " of sign " + sign + " at " + got, on, true);
            } else {
                Check.due("fault behind " + ahead + " of sign " + sign, got, ahead.length());
            }
        }
    }

    private static void otherBytes() {
        String atoms = "mfgldk[0123456789 ";
        behind("", "y ");
        behind("y", ": ");
        behind("y:", atoms + "!(");
        behind("y:m", "+-*/=<>; ");
        behind("y:1", "+-*/=<>; 0123456789");
        behind("y:1234", "+-*/=<>; ");
        behind("y:m+", atoms);
        behind("y:m*", atoms);
        behind("y:m=", atoms);
        behind("y:m=m", "+-*/?|& ");
        behind("y:m=m&", atoms + "!(");
        behind("y:m=m|", atoms + "!(");
        behind("y:m=m?", atoms);
        behind("y:m=m?m", "+-*/; ");
        behind("y:m;", "y ");
        behind("y:!", atoms + "!(");
        behind("y:(", atoms + "!(");
        behind("y:(m", "+-*/=<> ");
        behind("y:(m=m", "+-*/|&) ");
        behind("y:(m=m)", "?|& ");
        behind("y:[", atoms);
        behind("y:[m", "+-*/] ");
        behind("y:[m]", "+-*/=<>; ");
        behind("y:[[[[[[", "mfgldk0123456789 ");
        behind("y:((((((", "mfgldk0123456789 ");
        behind("y:!!!!!!", "mfgldk0123456789 ");
    }

    private static void blanks() {
        pulls("  y  :  m  >  11  ?  [  1  +  2  ]  ;  y  :  4  ", 3);
        pulls("y : ! ( m = 1 | f < 2 ) & k = 0 ? 6 / 2 ; y : 8", 3);
        fault("y:1 2", 4);
        fault("y:12 34", 5);
        fault("y:m\t", 3);
        fault("y:\n1", 2);
        fault("y: 12345", 7);
    }

    private static void fourLaws() {
        MuleSeasons x = Check.plain(PLAIN);
        for (int i = 0; i < 4; i++) {
            Check.type(x, "y:" + (i + 5));
            Check.due("its number", x.text(1), i);
            Check.due("LAWS", x.count(2), i + 1);
        }
        Twin.unchanged("a fifth one", EdgeLawTests::withFifth, y -> y.text(1), -1);
        MuleSeasons y = withFifth();
        Check.due("it is no fault", y.fault(1), -1);
        Check.due("refused", y.text(1), -1);
        Check.due("its bytes stay", y.count(3), 3);
        for (int i = 0; i < 4; i++) {
            y.law(i);
            Check.due("as told", y.pull(), i + 5);
        }
        y.end(0);
        Check.type(y, "m;m;c");
        Check.due("a PLAIN still", y.text(0), 2);
        Check.due("four still", y.count(2), 4);
    }

    private static MuleSeasons withFifth() {
        MuleSeasons x = Check.plain(PLAIN);
        for (int i = 0; i < 4; i++) {
            Check.addLaw(x, "y:" + (i + 5));
        }
        x.law(2);
        Check.type(x, "y:1");
        return x;
    }

    private static void withoutPlain() {
        MuleSeasons x = new MuleSeasons();
        Check.type(x, "y:6");
        Check.due("a LAW", x.text(1), 0);
        Check.due("it does not hold by itself", x.count(4), -1);
        Check.due("law(0)", x.law(0), true);
        Check.due("no PULL", x.pull(), -1);
        Check.type(x, "m;m;c");
        x.text(0);
        Check.due("then it pulls", x.pull(), 6);
    }

    private static void noneHolds() {
        MuleSeasons x = Check.plain(PLAIN);
        Check.due("none at first", x.count(4), -1);
        Check.due("law(-1)", x.law(-1), true);
        Check.due("2 and 12, by 6", x.pull(), 2);
        Check.addLaw(x, "y:7");
        Check.due("by it", x.pull(), 7);
        Check.due("law(-1)", x.law(-1), true);
        Check.due("none again", x.count(4), -1);
        Check.due("without it", x.pull(), 2);
        Check.due("LAWS", x.count(2), 1);
    }

    private static void noSuchLaw() {
        int[] none = {-2, 1, 4, Integer.MIN_VALUE, Integer.MAX_VALUE};
        for (int law : none) {
            Twin.unchanged("law(" + law + ")", () -> Check.plainWithLaw(PLAIN, "y:7"), x -> x.law(law) ? 1 : 0, 0);
        }
        Twin.unchanged("law(0) of none", () -> Check.plain(PLAIN), x -> x.law(0) ? 1 : 0, 0);
        Twin.unchanged("law(4) of four", EdgeLawTests::withFifth, x -> x.law(4) ? 1 : 0, 0);
        MuleSeasons x = withFifth();
        Check.due("law(3) of four", x.law(3), true);
        Check.due("holds", x.count(4), 3);
        Check.due("law(3) again", x.law(3), true);
    }

    private static void pullHeld() {
        pulls("y:0-1", 0);
        pulls("y:0-9999*9999", 0);
        pulls("y:0", 0);
        pulls("y:1", 1);
        pulls("y:9", 9);
        pulls("y:10", 9);
        pulls("y:9999*9999", 9);
    }

    private static void pullCut() {
        Check.due("5 by 6", Check.plain("sm5;m;m;c").pull(), 0);
        Check.due("6 by 6", Check.plain("sm6;m;m;c").pull(), 1);
        Check.due("11 by 6", Check.plain("sm11;m;m;c").pull(), 1);
        Check.due("12 by 6", Check.plain("sm12;m;m;c").pull(), 2);
        Check.due("3 and 2 by 6", Check.plain("sm3;mg1;m;c").pull(), 0);
        Check.due("4 and 2 by 6", Check.plain("sm4;mg1;m;c").pull(), 1);
        Check.due("1 and 18 by 6", Check.plain("sm1;mg9;m;c").pull(), 3);
        Check.due("30 and 18 by 6", Check.plain("sm30;mg9;m;c").pull(), 8);
        Check.due("of the MONTH it is", Check.plain("sm4;m;mg9;c").pull(), 0);
    }

    private static void pullDead() {
        MuleSeasons x = Check.plain("sm1f0h1;mg9;m;c");
        Check.due("one", x.pull(), 3);
        x.turn(1);
        Check.due("DEAD", x.rule(0), 0);
        Check.due("none", x.pull(), 0);
        Check.addLaw(x, "y:9");
        Check.due("none by a LAW", x.pull(), 0);
        x.turn(1);
        Check.due("none went by", x.log(0, 2), 0);
        Check.due("DAYS that came", x.count(10), 3);
    }

    private static void pullNone() {
        Twin.unchanged("pull()", MuleSeasons::new, x -> x.pull(), -1);
        Twin.unchanged("pull() with a PLAIN", () -> Check.plain(PLAIN), x -> x.pull(), 2);
    }

    private static void pullLetters() {
        MuleSeasons x = Check.plainWithLaw("sm9f20h3;ml2g1;ml5g4;c", "y:3");
        x.turn(1);
        String[] laws = {"y:m-5", "y:f-10", "y:g+l*d/5"};
        int[] want = {4, 7, 4 + 5 * 1 / 5};
        for (int i = 0; i < 3; i++) {
            Check.addLaw(x, laws[i]);
            Check.due("pull() by " + laws[i], x.pull(), want[i]);
        }
        MuleSeasons y = Check.plainWithLaw("ml1;ml1;ml1;ml1;ml1;ml1;ml1;ml1;c", "y:7");
        y.turn(1);
        Check.addLaw(y, "y:k");
        Check.due("the last MONTH is 7", y.pull(), 7);
        y.turn(1);
        Check.due("from 7 by 7 to 6", y.pull(), 6);
    }
}
