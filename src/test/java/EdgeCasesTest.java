/** Promises 17 to 22 and MADE, UNLIKE (term III) at their bounds and just beyond. */
public final class EdgeCasesTest {
    private static final int NOTHING = -2000000000;
    private static final Check c = new Check("edges of cases");

    public static void main(String[] args) {
        fortyCases();
        fortyOneCases();
        waysThatDoNotStopWell();
        refusedMakeLeaves();
        noneMade();
        makeStates();
        testsOfAnIf();
        putsGoRound();
        testsGoRound();
        wishEdges();
        wishGoesRound();
        wishNeedsAPut();
        wishStates();
        casingEdges();
        unlikeEdges();
        partsEdges();
        whereBits();
        oneTextIsMissing();
        c.close();
    }

    private static CarriedWorks wide(int lowA, int highA, int b) {
        CarriedWorks x = new CarriedWorks();
        Check.old(x, 0, EdgeWaysTest.ownWays());
        x.span(0, 0, lowA, highA);
        x.span(0, 1, 0, b - 1);
        return x;
    }

    private static void fortyCases() {
        for (int b : new int[] {1, 39, 40}) {
            CarriedWorks x = wide(0, 0, b);
            c.due("CASES", x.make(0), b);
            c.due("BESIDE", x.state(0), 1);
            c.due("CASES of all", x.count(1), b);
            c.due("the last one's PUTS", x.casing(0, b - 1, 1, 0, 0), 8);
            c.due("no more", x.casing(0, b, 1, 0, 0), NOTHING);
            c.due("alike", x.unlike(0), 0);
            x.runNew(0, b - 1);
            c.due("the last CASE", x.did(), b - 1);
        }
        CarriedWorks x = wide(0, 4, 40);
        c.due("200 WAYS", x.ways(0), 200);
        c.due("40 of these STOP 0", x.make(0), 40);
        c.due("the others are UNLIKE", x.unlike(0), 160);
    }

    /** -3: more than 40. */
    private static void fortyOneCases() {
        CarriedWorks x = wide(0, 0, 41);
        c.due("41 WAYS", x.ways(0), 41);
        c.due("41 CASES", x.make(0), -3);
        c.due("OLD still", x.state(0), 0);
        c.due("no CASES", x.count(1), 0);
        c.due("no NEW text", x.runNew(0, 0), -2);
        c.due("41 of 164", wide(0, 3, 41).make(0), -3);
        x.span(0, 1, 0, 39);
        c.due("40", x.make(0), 40);
    }

    /** -3: more than 200 WAYS, even if they make no CASES. */
    private static void waysThatDoNotStopWell() {
        CarriedWorks x = wide(1, 3, 67);
        c.due("201 WAYS", x.ways(0), -3);
        c.due("no CASES, but 201 WAYS", x.make(0), -3);
        c.due("OLD still", x.state(0), 0);
        CarriedWorks y = wide(1, 2, 100);
        c.due("200 WAYS", y.ways(0), 200);
        c.due("no CASES", y.make(0), 0);
        c.due("BESIDE", y.state(0), 1);
    }

    private static void refusedMakeLeaves() {
        CarriedWorks x = wide(0, 0, 41);
        Check.renew(x, 0, "when a=0{h=4;}");
        Check.sheet(x, 0);
        x.night(0, 0);
        c.due("refused", x.make(0), -3);
        c.due("its CASE stays", x.casing(0, 0, 3, 0, 0), 4);
        c.due("one CASE", x.count(1), 1);
        c.due("none since: the NIGHT stands", x.live(0), 0);
        c.due("refused", x.make(0), -2);
        c.due("LIVE", x.state(0), 2);
    }

    private static void noneMade() {
        CarriedWorks x = new CarriedWorks();
        Check.old(x, 0, "1:go 1;");
        c.due("it STOPS 4", x.make(0), 0);
        c.due("BESIDE", x.state(0), 1);
        c.due("a NEW text without a CASE", x.runNew(0, 0), 5);
        c.due("no CASE", x.casing(0, 0, 0, 0, 0), NOTHING);
        c.due("no wish", x.wish(0, 0, 0, 1), -2);
        Check.old(x, 1, "");
        c.due("an empty text STOPS 0", x.make(1), 1);
        c.due("no TESTS", x.casing(1, 0, 0, 0, 0), 0);
        c.due("all eight", x.casing(1, 0, 1, 0, 0), 8);
        c.due("in place of its text", Check.renew(x, 1, "when a=1{}when a=2{}"), 2);
        c.due("one again", x.make(1), 1);
    }

    private static void makeStates() {
        CarriedWorks x = new CarriedWorks();
        c.due("PROGRAM -1", x.make(-1), -2);
        c.due("PROGRAM 8", x.make(8), -2);
        c.due("no text", x.make(7), -2);
        c.due("OLD still", x.state(7), 0);
        x.old(7);
        c.due("OLD", x.make(7), 1);
        c.due("BESIDE", x.make(7), 1);
        Check.sheet(x, 0, 0);
        x.night(7, 0);
        x.live(7);
        c.due("LIVE", x.make(7), -2);
        x.back(7);
        c.due("BACK", x.make(7), -2);
        x.live(7);
        x.retire(7);
        c.due("RETIRED", x.make(7), -2);
        x.renew(0);
        c.due("BESIDE without an OLD text", x.make(0), -2);
        c.due("BESIDE still", x.state(0), 1);
    }

    /** Each if that was done, as often as it was, as it held or not at the least INPUT. */
    private static void testsOfAnIf() {
        CarriedWorks x = new CarriedWorks();
        Check.old(x, 0, "1:set a=a+1;2:if a<33 go 1;");
        c.due("make", x.make(0), 1);
        c.due("33 TESTS, more than a text may have", x.casing(0, 0, 0, 0, 0), 33);
        c.due("runNew", x.runNew(0, 0), 0);
        c.due("a", x.field(0), 33);
        // OP and N just beside what holds
        for (String op : new String[] {"<", ">", "="}) {
            CarriedWorks y = new CarriedWorks();
            Check.old(y, 0, "1:set c=2*a;2:if c" + op + "4 go 4;3:stop;4:set b=1;");
            y.span(0, 0, 1, 3);
            c.due("two", y.make(0), 2);
            c.due("alike", y.unlike(0), 0);
        }
        // it goes to the next LINE either way: at INPUT 0 it did not hold, so it counts where it does not
        Check.old(x, 1, "1:if a>1 go 2;2:set b=3;");
        x.span(1, 0, 1, 2);
        c.due("one", x.make(1), 1);
        c.due("as at the least", x.runNew(1, 0), 0);
        c.due("not so", x.runNew(1, 1), 5);
    }

    /** PUTS work in 32 bits that go round: 2^32 times a is 0 times. */
    private static void putsGoRound() {
        CarriedWorks x = new CarriedWorks();
        Check.old(x, 0, "1:set b=4096*a;2:set b=4096*b;3:set c=256*b;4:set d=128*b;5:set b=0;");
        x.span(0, 0, 0, 0);
        c.due("make", x.make(0), 1);
        c.due("2^32", x.casing(0, 0, 2, 2, 0), 0);
        c.due("2^31", x.casing(0, 0, 2, 3, 0), Integer.MIN_VALUE);
        x.span(0, 0, 0, 2);
        c.due("a 1: d is -2^31", x.runNew(0, 1), 2);
        c.due("all stay", x.field(0), 1);
        c.due("a 2: d is 0", x.runNew(0, 2), 0);
        c.due("d", x.field(3), 0);
        c.due("c", x.field(2), 0);
    }

    private static void testsGoRound() {
        CarriedWorks x = new CarriedWorks();
        Check.old(x, 0, "1:set b=4096*a;2:set b=4096*b;3:set b=128*b;4:if b<0 go 6;5:set c=1;6:stop;");
        x.span(0, 0, 0, 0);
        c.due("make", x.make(0), 1);
        x.span(0, 0, 0, 2);
        c.due("0 is not below 0, but b's SUM is", x.runNew(0, 0), 0);
        c.due("-2^31 is below 0: no CASE", x.runNew(0, 1), 5);
        c.due("2^32 is 0", x.runNew(0, 2), 0);
    }

    /** Promise 18: -99 .. 99. */
    private static void wishEdges() {
        CarriedWorks x = new CarriedWorks();
        Check.renew(x, 7, "when a=1{}else{b=5;h=6;}");
        c.due("99", x.wish(7, 1, 7, 99), 1);
        c.due("h", x.casing(7, 1, 3, 1, 0), 105);
        c.due("100", x.wish(7, 1, 7, 100), -2);
        c.due("-99", x.wish(7, 1, 7, -99), 2);
        c.due("-99", x.wish(7, 1, 7, -99), 3);
        c.due("-100", x.wish(7, 1, 7, -100), -2);
        c.due("h", x.casing(7, 1, 3, 1, 0), -93);
        c.due("b", x.casing(7, 1, 3, 0, 0), 5);
        c.due("0", x.wish(7, 1, 1, 0), 4);
        c.due("so often", x.count(7), 4);
        c.due("far", x.wish(7, 1, 7, Integer.MIN_VALUE), -2);
        c.due("far", x.wish(7, 1, 7, Integer.MAX_VALUE), -2);
        c.due("so often still", x.count(7), 4);
        c.due("how often any was told, of another too", Check.renew(x, 0, "else{a=1;}") + x.wish(0, 0, 0, 1), 1 + 5);
    }

    /** What stands alone goes round in 32 bits, too. */
    private static void wishGoesRound() {
        CarriedWorks x = new CarriedWorks();
        Check.old(x, 0, "1:set b=a-1;2:set b=4096*b;3:set b=4096*b;4:set b=128*b;");
        x.span(0, 0, 1, 1);
        c.due("make", x.make(0), 1);
        c.due("-2^31 times a", x.casing(0, 0, 2, 1, 0), Integer.MIN_VALUE);
        c.due("-2^31 alone", x.casing(0, 0, 3, 1, 0), Integer.MIN_VALUE);
        c.due("alike", x.unlike(0), 0);
        c.due("one less", x.wish(0, 0, 1, -1), 1);
        c.due("2^31 - 1", x.casing(0, 0, 3, 1, 0), Integer.MAX_VALUE);
        c.due("in sum -1", x.runNew(0, 0), 0);
        c.due("b", x.field(1), -1);
        c.due("one more", x.wish(0, 0, 1, 1), 2);
        c.due("-2^31", x.casing(0, 0, 3, 1, 0), Integer.MIN_VALUE);
    }

    private static void wishNeedsAPut() {
        CarriedWorks x = new CarriedWorks();
        Check.renew(x, 0, "when a=1{}when a=2{c=1;}else{a=1;b=1;d=1;e=1;f=1;g=1;h=1;}");
        for (int f = 0; f < 8; f++) {
            c.due("no PUTS", x.wish(0, 0, f, 1), -2);
            if (f != 2) {
                c.due("no such PUT", x.wish(0, 1, f, 1), -2);
            }
        }
        c.due("no such PUT", x.wish(0, 2, 2, 1), -2);
        c.due("no CASE", x.wish(0, 3, 2, 1), -2);
        c.due("no CASE", x.wish(0, -1, 2, 1), -2);
        c.due("no FIELD", x.wish(0, 2, 8, 1), -2);
        c.due("no FIELD", x.wish(0, 2, -1, 1), -2);
        c.due("no PROGRAM", x.wish(8, 0, 0, 1), -2);
        c.due("no PROGRAM", x.wish(-1, 0, 0, 1), -2);
        c.due("none was told", x.count(7), 0);
        c.due("c", x.casing(0, 1, 3, 0, 0), 1);
        c.due("such a PUT", x.wish(0, 1, 2, 1), 1);
        c.due("the last PUT", x.wish(0, 2, 7, 1), 2);
    }

    private static void wishStates() {
        CarriedWorks x = new CarriedWorks();
        x.old(0);
        c.due("OLD", x.wish(0, 0, 0, 1), -2);
        x.make(0);
        c.due("BESIDE", x.wish(0, 0, 0, 0), 1);
        Check.sheet(x, 0, 0);
        x.night(0, 0);
        x.live(0);
        c.due("LIVE", x.wish(0, 0, 0, 0), -2);
        x.back(0);
        c.due("BACK", x.wish(0, 0, 0, 0), -2);
        c.due("nothing was told: LIVE again", x.live(0), 0);
        x.retire(0);
        c.due("RETIRED", x.wish(0, 0, 0, 0), -2);
        c.due("one in all", x.count(7), 1);
    }

    /** Promise 19. */
    private static void casingEdges() {
        CarriedWorks x = new CarriedWorks();
        Check.renew(x, 7, "when a<1 and b<1 and c<1 and d<1{}else{h=-9999*a+9999*h-9999;g=9999;}");
        c.due("four TESTS", x.casing(7, 0, 0, 0, 0), 4);
        c.due("no PUTS", x.casing(7, 0, 1, 0, 0), 0);
        c.due("no PUT", x.casing(7, 0, 4, 0, 0), NOTHING);
        c.due("no TESTS", x.casing(7, 1, 0, 0, 0), 0);
        c.due("two PUTS", x.casing(7, 1, 1, 0, 0), 2);
        c.due("times a", x.casing(7, 1, 2, 0, 0), -9999);
        c.due("times h", x.casing(7, 1, 2, 0, 7), 9999);
        c.due("times b", x.casing(7, 1, 2, 0, 1), 0);
        c.due("FIELD 8", x.casing(7, 1, 2, 0, 8), NOTHING);
        c.due("FIELD -1", x.casing(7, 1, 2, 0, -1), NOTHING);
        c.due("alone", x.casing(7, 1, 3, 0, 0), -9999);
        c.due("alone", x.casing(7, 1, 3, 1, 0), 9999);
        c.due("its FIELD", x.casing(7, 1, 4, 0, 0), 7);
        c.due("its FIELD", x.casing(7, 1, 4, 1, 0), 6);
        for (int what = 2; what <= 4; what++) {
            c.due("PUT 2", x.casing(7, 1, what, 2, 0), NOTHING);
            c.due("PUT -1", x.casing(7, 1, what, -1, 0), NOTHING);
        }
        for (int what = 0; what <= 4; what++) {
            c.due("CASE 2", x.casing(7, 2, what, 0, 0), NOTHING);
            c.due("CASE -1", x.casing(7, -1, what, 0, 0), NOTHING);
            c.due("PROGRAM 8", x.casing(8, 0, what, 0, 0), NOTHING);
            c.due("PROGRAM -1", x.casing(-1, 0, what, 0, 0), NOTHING);
            c.due("no NEW text", x.casing(0, 0, what, 0, 0), NOTHING);
        }
        c.due("what 5", x.casing(7, 0, 5, 0, 0), NOTHING);
        c.due("what -1", x.casing(7, 0, -1, 0, 0), NOTHING);
        Check.renew(x, 7, "");
        c.due("no CASES any more", x.casing(7, 0, 0, 0, 0), NOTHING);
        // six TERMS of one FIELD, and what stands alone of six
        Check.renew(x, 7, "else{a=9999*a+9999*a+9999*a+9999*a+9999*a+9999*a;b=-9999-9999-9999-9999-9999-9999;}");
        c.due("times a", x.casing(7, 0, 2, 0, 0), 6 * 9999);
        c.due("alone", x.casing(7, 0, 3, 1, 0), -6 * 9999);
    }

    /** Promise 20. */
    private static void unlikeEdges() {
        CarriedWorks x = new CarriedWorks();
        x.old(0);
        x.span(0, 0, 0, 63);
        x.span(0, 1, 0, 63);
        Check.renew(x, 0, "else{}");
        c.due("none of 4096", x.unlike(0), 0);
        Check.renew(x, 0, "when a=63 and b=63{h=1;}else{}");
        c.due("the last alone", x.unlike(0), 1);
        c.due("it is the first one", x.parts(0, 0), 4095);
        Check.renew(x, 0, "when a=0 and b=0{h=1;}else{}");
        c.due("the first alone", x.unlike(0), 1);
        c.due("none behind it", x.parts(0, 1), -1);
        Check.renew(x, 0, "");
        c.due("all", x.unlike(0), 4096);
        c.due("PROGRAM -1", x.unlike(-1), -2);
        c.due("PROGRAM 8", x.unlike(8), -2);
        CarriedWorks y = new CarriedWorks();
        y.old(7);
        y.renew(7);
        c.due("one INPUT", y.unlike(7), 1);
    }

    /** Promise 21. */
    private static void partsEdges() {
        CarriedWorks x = new CarriedWorks();
        x.old(0);
        x.span(0, 0, 0, 4);
        Check.renew(x, 0, "when a=0{b=1;}when a=3{b=1;}else{}");
        int[] due = {0, 3, 3, 3, -1};
        for (int from = 0; from < 5; from++) {
            c.due("from " + from, x.parts(0, from), due[from]);
        }
        c.due("from 5", x.parts(0, 5), -2);
        c.due("from -1", x.parts(0, -1), -2);
        c.due("far", x.parts(0, Integer.MIN_VALUE), -2);
        c.due("far", x.parts(0, Integer.MAX_VALUE), -2);
        Check.renew(x, 0, "else{}");
        c.due("all alike", x.parts(0, 0), -1);
        c.due("no such INPUT all the same", x.parts(0, 5), -2);
    }

    /** Promise 22: a bit for each FIELD, 256 for the STOP. */
    private static void whereBits() {
        for (int f = 0; f < 8; f++) {
            CarriedWorks x = new CarriedWorks();
            x.old(0);
            Check.renew(x, 0, "else{" + (char) ('a' + f) + "=1;}");
            c.due("FIELD " + f, x.where(0, 0), 1 << f);
        }
        CarriedWorks x = new CarriedWorks();
        Check.old(x, 0, "1:set a=1;2:set b=1;3:set c=1;4:set d=1;5:set e=1;6:set f=1;7:set g=1;8:set h=1;9:go 0;");
        Check.renew(x, 0, "else{}");
        c.due("all", x.where(0, 0), 511);
        Check.renew(x, 0, "else{a=1;b=1;c=1;d=1;e=1;f=1;g=1;h=1;}");
        c.due("the STOP alone", x.where(0, 0), 256);
        c.due("INPUT 1", x.where(0, 1), -2);
        c.due("INPUT -1", x.where(0, -1), -2);
        // 2 and 2, 4 and 5 STOP otherwise or not
        Check.old(x, 1, "1:set a=9999+1;");
        Check.renew(x, 1, "else{b=9999+1;}");
        c.due("both STOP 2", x.where(1, 0), 0);
        Check.renew(x, 1, "");
        c.due("2 and 5", x.where(1, 0), 256);
    }

    /** Promises 20, 21, 22: -2: one text is missing. */
    private static void oneTextIsMissing() {
        CarriedWorks x = new CarriedWorks();
        x.old(0);
        x.renew(1);
        for (int p : new int[] {0, 1, 2, -1, 8}) {
            c.due("unlike", x.unlike(p), -2);
            c.due("parts", x.parts(p, 0), -2);
            c.due("where", x.where(p, 0), -2);
        }
        x.renew(0);
        c.due("both", x.unlike(0), 1);
        c.due("both", x.parts(0, 0), 0);
        c.due("both", x.where(0, 0), 256);
    }
}
