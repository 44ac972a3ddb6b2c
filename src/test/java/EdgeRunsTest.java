/** Promises 7 to 11 and how texts run (term I): SPANS, INPUTS, ACTS and STOPS at their bounds and just beyond. */
public final class EdgeRunsTest {
    private static final Check c = new Check("edges of runs");

    public static void main(String[] args) {
        spanEdges();
        fourthField();
        mostInputs();
        spanAndNoSpan();
        spanStates();
        firstAndLastInput();
        lastGoesFastest();
        everyFieldOfASum();
        setRange();
        sumsBeyond();
        goesToNoLine();
        hundredthAct();
        behindTheLastLine();
        putRange();
        firstCaseThatCounts();
        withoutACase();
        aheadOfAnyRun();
        refusedRunsLeave();
        didEdges();
        c.close();
    }

    /** Promise 7: -99 .. 99. */
    private static void spanEdges() {
        CarriedWorks x = new CarriedWorks();
        x.old(0);
        c.due("all", x.span(0, 0, -99, 99), 199);
        c.due("-100", x.span(0, 0, -100, 99), -2);
        c.due("100", x.span(0, 0, -99, 100), -2);
        c.due("the SPAN stays", x.run(0, 198), 0);
        c.due("its last number", x.field(0), 99);
        c.due("no more", x.run(0, 199), -2);
        x.run(0, 0);
        c.due("its first number", x.field(0), -99);
        c.due("one number", x.span(0, 0, 99, 99), 1);
        c.due("one number", x.span(0, 0, -99, -99), 1);
        x.run(0, 0);
        c.due("-99", x.field(0), -99);
        c.due("none: 99 above -99", x.span(0, 0, 99, -99), 1);
        x.run(0, 0);
        c.due("0 without a SPAN", x.field(0), 0);
        c.due("none: 1 above 0", x.span(0, 0, 1, 0), 1);
        c.due("100 above 0", x.span(0, 0, 100, 0), -2);
        c.due("0 above -100", x.span(0, 0, 0, -100), -2);
        c.due("FIELD h", x.span(0, 7, 0, 1), 2);
        c.due("FIELD 8", x.span(0, 8, 0, 1), -2);
        c.due("FIELD -1", x.span(0, -1, 0, 1), -2);
        c.due("PROGRAM 7", x.span(7, 0, 0, 1), 2);
        c.due("PROGRAM 8", x.span(8, 0, 0, 1), -2);
        c.due("PROGRAM -1", x.span(-1, 0, 0, 1), -2);
    }

    /** Promise 7: -3: a fourth FIELD with a SPAN. */
    private static void fourthField() {
        for (int fourth = 0; fourth < 8; fourth++) {
            CarriedWorks x = new CarriedWorks();
            x.old(0);
            int inputs = 1;
            for (int i = 1; i <= 3; i++) {
                inputs *= i + 1;
                c.due("FIELD " + i, x.span(0, (fourth + 2 * i) % 8, 10 * i, 11 * i), inputs);
            }
            c.due("a fourth", x.span(0, fourth, 0, 0), -3);
            c.due("no SPAN for a fourth", x.span(0, fourth, 0, -1), 24);
            c.due("one of the three anew", x.span(0, (fourth + 2) % 8, 10, 12), 36);
            c.due("it goes", x.span(0, (fourth + 4) % 8, 1, 0), 12);
            c.due("room for a third", x.span(0, fourth, 5, 5), 12);
            x.run(0, 11);
            c.due("its number", x.field(fourth), 5);
            c.due("that which went", x.field((fourth + 4) % 8), 0);
            c.due("the first", x.field((fourth + 2) % 8), 12);
            c.due("the third", x.field((fourth + 6) % 8), 33);
            c.due("a fourth again", x.span(0, (fourth + 1) % 8, 0, 0), -3);
        }
    }

    /** Promise 7: -3: more than 4096 INPUTS. */
    private static void mostInputs() {
        CarriedWorks x = new CarriedWorks();
        x.old(0);
        c.due("64", x.span(0, 0, -32, 31), 64);
        c.due("4096", x.span(0, 7, 0, 63), 4096);
        c.due("4160", x.span(0, 7, 0, 64), -3);
        c.due("the last INPUT stays", x.run(0, 4095), 0);
        c.due("a", x.field(0), 31);
        c.due("h", x.field(7), 63);
        c.due("no more", x.run(0, 4096), -2);
        c.due("a third of one number", x.span(0, 3, 9, 9), 4096);
        c.due("a third of two", x.span(0, 3, 9, 10), -3);
        x.run(0, 4095);
        c.due("it stays 9", x.field(3), 9);
        c.due("63 * 65", x.span(1, 0, 1, 63) * x.span(1, 1, 1, 65), 63 * 4095);
        c.due("41 * 100", x.span(2, 0, 0, 40) * x.span(2, 1, 0, 99), 41 * -3);
        c.due("41 * 99", x.span(2, 1, 0, 98), 4059);
        c.due("16 * 16 * 16", x.span(3, 0, 1, 16) * x.span(3, 1, 1, 16) * x.span(3, 2, 1, 16), 16 * 256 * 4096);
        c.due("16 * 16 * 17", x.span(3, 2, 0, 16), -3);
        c.due("199 * 199", x.span(4, 0, -99, 99) * x.span(4, 1, -99, 99), 199 * -3);
        c.due("199 * 20", x.span(4, 1, 0, 19), 3980);
        c.due("199 * 21", x.span(4, 1, 0, 20), -3);
        c.due("a wider one in place of one, alone", x.span(5, 0, 0, 0) + x.span(5, 0, -99, 99), 200);
    }

    /** INPUTS count no FIELD that has no SPAN. */
    private static void spanAndNoSpan() {
        CarriedWorks x = new CarriedWorks();
        x.old(0);
        c.due("one INPUT without a SPAN", x.run(0, 0), 0);
        c.due("no second", x.run(0, 1), -2);
        c.due("none of one that has none", x.span(0, 4, 5, 4), 1);
        x.span(0, 2, 3, 5);
        x.span(0, 4, 7, 8);
        c.due("6", x.span(0, 0, 1, 0), 6);
        c.due("the first goes", x.span(0, 2, 0, -1), 2);
        x.run(0, 1);
        c.due("e", x.field(4), 8);
        c.due("c", x.field(2), 0);
        c.due("all went", x.span(0, 4, 0, -1), 1);
        x.run(0, 0);
        c.due("e", x.field(4), 0);
        c.due("of another PROGRAM", x.span(1, 4, 0, 1), 2);
        c.due("not of this", x.run(0, 1), -2);
    }

    /** Promise 7: of one that is OLD or BESIDE. */
    private static void spanStates() {
        CarriedWorks x = new CarriedWorks();
        x.old(0);
        c.due("OLD", x.span(0, 0, 0, 1), 2);
        x.make(0);
        c.due("BESIDE", x.span(0, 0, 0, 2), 3);
        Check.sheet(x, 0, 0);
        x.night(0, 0);
        x.live(0);
        c.due("LIVE", x.span(0, 0, 0, 3), -2);
        c.due("LIVE, a fourth", x.span(0, 1, -99, 99) + x.span(0, 2, -99, 99), -4);
        c.due("3 INPUTS", x.run(0, 3), -2);
        x.back(0);
        c.due("BACK", x.span(0, 0, 0, 3), -2);
        x.live(0);
        x.retire(0);
        c.due("RETIRED", x.span(0, 0, 1, 0), -2);
        c.due("3 INPUTS", x.run(0, 2), 0);
    }

    /** Promises 8 and 9. */
    private static void firstAndLastInput() {
        CarriedWorks x = new CarriedWorks();
        x.old(7);
        x.span(7, 2, -3, 4);
        x.renew(7);
        for (int input : new int[] {0, 7}) {
            c.due("run", x.run(7, input), 0);
            c.due("c", x.field(2), input - 3);
            c.due("runNew", x.runNew(7, input), 5);
            c.due("c", x.field(2), input - 3);
        }
        for (int input : new int[] {-1, 8, Integer.MIN_VALUE, Integer.MAX_VALUE}) {
            c.due("run", x.run(7, input), -2);
            c.due("runNew", x.runNew(7, input), -2);
        }
        c.due("no PROGRAM", x.run(8, 0), -2);
        c.due("no PROGRAM", x.run(-1, 0), -2);
        c.due("no PROGRAM", x.runNew(8, 0), -2);
        c.due("no PROGRAM", x.runNew(-1, 0), -2);
        c.due("no text", x.run(0, 0), -2);
        c.due("no text", x.runNew(0, 0), -2);
    }

    /** FIELDS by letters, the last one goes fastest, in whatever order they were told. */
    private static void lastGoesFastest() {
        int[][] orders = {{0, 3, 7}, {0, 7, 3}, {3, 0, 7}, {3, 7, 0}, {7, 0, 3}, {7, 3, 0}};
        int[] sizes = {2, 0, 0, 3, 0, 0, 0, 5};
        for (int[] order : orders) {
            CarriedWorks x = new CarriedWorks();
            x.old(0);
            for (int f : order) {
                x.span(0, f, -1, sizes[f] - 2);
            }
            for (int input = 0; input < 30; input++) {
                c.due("run", x.run(0, input), 0);
                c.due("a", x.field(0), input / 15 - 1);
                c.due("d", x.field(3), input / 5 % 3 - 1);
                c.due("h", x.field(7), input % 5 - 1);
            }
        }
    }

    /** Runs an OLD text with a as it begins: how it STOPS, ACTS, a, b. */
    private static void runs(String text, int begin, int stop, int acts, int a, int b) {
        CarriedWorks x = new CarriedWorks();
        x.span(0, 0, begin, begin);
        c.holds("read " + text, Check.old(x, 0, text) >= 0);
        c.due("run " + text, x.run(0, 0), stop);
        c.due("ACTS of " + text, x.did(), acts);
        c.due("a of " + text, x.field(0), a);
        c.due("b of " + text, x.field(1), b);
    }

    /** Each FIELD in a set, an if, a TEST and a PUT is that FIELD and no other. */
    private static void everyFieldOfASum() {
        for (int f = 0; f < 8; f++) {
            char from = (char) ('a' + f);
            for (int g = 0; g < 8; g++) {
                char to = (char) ('a' + g);
                CarriedWorks x = new CarriedWorks();
                x.span(0, f, 5, 6);
                Check.old(x, 0, "1:if " + from + "=6 go 3;2:set " + to + "=3*" + from + "+1;3:stop;");
                Check.renew(x, 0, "when 2*" + from + "+1<13{" + to + "=1+3*" + from + ";}else{}");
                c.due("alike", x.unlike(0), 0);
                c.due("run", x.run(0, 0), 0);
                for (int h = 0; h < 8; h++) {
                    c.due("FIELD " + h, x.field(h), h == g ? 16 : h == f ? 5 : 0);
                }
                c.due("runNew", x.runNew(0, 1), 0);
                c.due("the second CASE", x.did(), 1);
                c.due("it stays", x.field(f), 6);
                c.due("times", x.casing(0, 0, 2, 0, f), 3);
                c.due("its FIELD", x.casing(0, 0, 4, 0, 0), g);
                x.ways(0);
                c.due("times", x.rule(0, g, 0), 3);
            }
        }
    }

    /** 2 at a set whose SUM is not -9999 .. 9999 (the FIELD stays). */
    private static void setRange() {
        runs("1:set b=9998+a;2:set a=7;", 1, 0, 2, 7, 9999);
        runs("1:set b=9998+a;2:set a=7;", 2, 2, 1, 2, 0);
        runs("1:set b=-9998-a;2:set a=7;", 1, 0, 2, 7, -9999);
        runs("1:set b=-9998-a;2:set a=7;", 2, 2, 1, 2, 0);
        runs("1:set b=4;2:set b=9999+a;", 1, 2, 2, 1, 4);
        runs("1:set b=4;2:set b=-9999-a;", 1, 2, 2, 1, 4);
        runs("1:set a=9999+a;", 1, 2, 1, 1, 0);
        runs("1:set a=9999*a;", 1, 0, 1, 9999, 0);
        runs("1:set a=9999*a;", -1, 0, 1, -9999, 0);
        runs("1:set a=5000*a;", 2, 2, 1, 2, 0);
        // it STOPS: no LINE behind it is done, and none is gone to
        runs("1:set a=9999+a;2:set b=1;3:stop;", 1, 2, 1, 1, 0);
    }

    /** The largest SUMS that can be told: they are beyond, and none comes round to be in. */
    private static void sumsBeyond() {
        String six = "9999*a+9999*a+9999*a+9999*a+9999*a+9999*a";
        runs("1:set a=9999;2:set b=" + six + ";", 0, 2, 2, 9999, 0);
        runs("1:set a=-9999;2:set b=" + six + ";", 0, 2, 2, -9999, 0);
        runs("1:set a=9999;2:set b=-" + six.replace('+', '-') + ";", 0, 2, 2, 9999, 0);
        runs("1:set a=9999;2:set b=9999*a+9999*a-9999*a-9999*a+9999-0*a;", 0, 0, 2, 9999, 9999);
        runs("1:set b=9999+9999+9999-9999-9999;", 3, 0, 1, 3, 9999);
        runs("1:set b=9999+9999-9999-9999-9999-1;", 3, 2, 1, 3, 0);
        runs("1:set b=0-0+0*a;", 99, 0, 1, 99, 0);
    }

    /** 3 at a go to a number that no LINE has. */
    private static void goesToNoLine() {
        runs("1:go 2;3:set b=1;", 0, 3, 1, 0, 0);
        runs("1:go 0;3:set b=1;", 0, 3, 1, 0, 0);
        runs("1:go 4;3:set b=1;", 0, 3, 1, 0, 0);
        runs("1:go 9999;3:set b=1;", 0, 3, 1, 0, 0);
        runs("1:go 3;3:set b=1;", 0, 0, 2, 0, 1);
        runs("1:if a=1 go 2;3:set b=1;", 1, 3, 1, 1, 0);
        runs("1:if a=1 go 2;3:set b=1;", 0, 0, 2, 0, 1);
        runs("5:if b=1 go 9;6:set b=b+1;7:go 5;9:stop;", 0, 0, 5, 0, 1);
        runs("1:set b=b+1;2:if b=2 go 3;4:go 1;", 0, 3, 5, 0, 2);
        runs("7:go 07;", 0, 4, 100, 0, 0);
        runs("999:set b=b+1;", 0, 0, 1, 0, 1);
        // the FIELDS stay as they were there
        runs("1:set a=3;2:set b=4;3:go 1000;", 0, 3, 3, 3, 4);
    }

    /** 4 ahead of a 101st ACT. */
    private static void hundredthAct() {
        // a LINE, 49 rounds of two LINES, and then what is told
        String rounds = "1:set a=49;2:set a=a-1;3:if a>0 go 2;";
        runs(rounds, 0, 0, 99, 0, 0);
        runs(rounds + "4:stop;", 0, 0, 100, 0, 0);
        runs(rounds + "4:set b=1;", 0, 0, 100, 0, 1);
        runs(rounds + "4:set b=9999+1;", 0, 2, 100, 0, 0);
        runs(rounds + "4:go 5;", 0, 3, 100, 0, 0);
        runs(rounds + "4:if a=0 go 5;", 0, 3, 100, 0, 0);
        runs(rounds + "4:if a=1 go 5;", 0, 0, 100, 0, 0);
        runs(rounds + "4:go 4;", 0, 4, 100, 0, 0);
        runs(rounds + "4:set b=1;5:stop;", 0, 4, 100, 0, 1);
        runs(rounds + "4:set b=1;5:set b=9999+1;", 0, 4, 100, 0, 1);
        runs(rounds + "4:set b=1;5:go 6;", 0, 4, 100, 0, 1);
        runs("1:set b=b+1;2:go 1;", 0, 4, 100, 0, 50);
        runs("1:go 1;", 0, 4, 100, 0, 0);
        // 24 LINES, four times round: the 97th is the first LINE again
        StringBuilder text = new StringBuilder();
        for (int line = 1; line <= 23; line++) {
            text.append(line).append(":set b=b+1;");
        }
        runs(text + "24:go 1;", 0, 4, 100, 0, 4 * 23 + 4);
    }

    /** 0 at stop, or behind the last LINE, which is no ACT. */
    private static void behindTheLastLine() {
        runs("", 5, 0, 0, 5, 0);
        runs("1:stop;", 5, 0, 1, 5, 0);
        runs("1:set b=1;", 5, 0, 1, 5, 1);
        runs("1:if a=6 go 1;", 5, 0, 1, 5, 0);
        runs("1:set b=1;2:stop;3:set b=2;", 5, 0, 2, 5, 1);
        runs("1:go 3;2:stop;3:set b=2;", 5, 0, 2, 5, 2);
    }

    /** Runs a NEW text with a as it begins. */
    private static void chooses(String text, int begin, int stop, int chosen, int a, int b) {
        CarriedWorks x = new CarriedWorks();
        x.span(0, 0, begin, begin);
        c.holds("read " + text, Check.renew(x, 0, text) >= 0);
        c.due("runNew " + text, x.runNew(0, 0), stop);
        c.due("CASE of " + text, x.did(), chosen);
        c.due("a of " + text, x.field(0), a);
        c.due("b of " + text, x.field(1), b);
    }

    /** 2 if a SUM is not -9999 .. 9999 (all FIELDS stay). */
    private static void putRange() {
        chooses("else{b=9998+a;a=3;}", 1, 0, 0, 3, 9999);
        chooses("else{b=9998+a;a=3;}", 2, 2, 0, 2, 0);
        chooses("else{a=3;b=9998+a;}", 2, 2, 0, 2, 0);
        chooses("else{b=-9998-a;a=3;}", 1, 0, 0, 3, -9999);
        chooses("else{b=-9998-a;a=3;}", 2, 2, 0, 2, 0);
        chooses("when a=1{}when a=2{h=9999+1;b=1;}else{b=2;}", 2, 2, 1, 2, 0);
        chooses("when a>0{h=9999+1;}else{b=2;}", 0, 0, 1, 0, 2);
        // a TEST's SUM has no such bounds
        chooses("when 9999*a>9999{b=1;}else{b=2;}", 1, 0, 1, 1, 2);
        chooses("when 9999*a>9999{b=1;}else{b=2;}", 2, 0, 0, 2, 1);
    }

    /** The first CASE counts all TESTS of which hold, for the FIELDS as they begin. */
    private static void firstCaseThatCounts() {
        String three = "when a<0{b=1;}when a<1{b=2;}when a<2{b=3;}else{b=4;}";
        chooses(three, -1, 0, 0, -1, 1);
        chooses(three, 0, 0, 1, 0, 2);
        chooses(three, 1, 0, 2, 1, 3);
        chooses(three, 2, 0, 3, 2, 4);
        chooses("when a>1{b=1;}when a=1{b=2;}else{b=3;}", 2, 0, 0, 2, 1);
        chooses("when a>1{b=1;}when a=1{b=2;}else{b=3;}", 1, 0, 1, 1, 2);
        chooses("when a>1{b=1;}when a=1{b=2;}else{b=3;}", 0, 0, 2, 0, 3);
        for (int fails = 0; fails < 4; fails++) {
            StringBuilder text = new StringBuilder("when ");
            for (int test = 0; test < 4; test++) {
                text.append(test == 0 ? "" : " and ").append("a=").append(test == fails ? 6 : 5);
            }
            chooses(text + "{b=1;}else{b=2;}", 5, 0, 1, 5, 2);
        }
        chooses("when a=5 and a=5 and a=5 and a=5{b=1;}else{b=2;}", 5, 0, 0, 5, 1);
        chooses("when 1=1{}".repeat(11) + "else{b=1;}", 5, 0, 0, 5, 0);
        chooses("when 1=2{}".repeat(11) + "else{b=1;}", 5, 0, 11, 5, 1);
        chooses("when 1=2{}".repeat(11) + "when a=5{b=1;}", 5, 0, 11, 5, 1);
        // all SUMS are of the FIELDS as they begin
        chooses("else{a=b+7;b=a;}", 5, 0, 0, 7, 5);
        chooses("else{b=a;a=b+7;}", 5, 0, 0, 7, 5);
    }

    /** 5 without a CASE: all stay. */
    private static void withoutACase() {
        chooses("", 5, 5, -1, 5, 0);
        chooses("when a=4{b=1;}", 5, 5, -1, 5, 0);
        chooses("when 1=2{b=9999+1;}".repeat(12), 5, 5, -1, 5, 0);
    }

    /** Promises 10 and 11. */
    private static void aheadOfAnyRun() {
        CarriedWorks x = new CarriedWorks();
        x.old(0);
        x.run(0, 1);
        x.run(1, 0);
        x.runNew(0, 0);
        for (int f = 0; f < 8; f++) {
            c.due("0 ahead of any", x.field(f), 0);
        }
        c.due("others", x.field(8), -1);
        c.due("others", x.field(-1), -1);
        c.due("NONE ahead of any", x.did(), -1);
        x.run(0, 0);
        c.due("no ACT", x.did(), 0);
        c.due("others", x.field(8), -1);
        c.due("others", x.field(-1), -1);
    }

    private static void refusedRunsLeave() {
        CarriedWorks x = new CarriedWorks();
        Check.old(x, 0, "1:set a=3;2:set h=-4;");
        x.run(0, 0);
        for (int p : new int[] {-1, 1, 8}) {
            c.due("run", x.run(p, 0), -2);
            c.due("runNew", x.runNew(p, 0), -2);
        }
        c.due("run", x.run(0, 1), -2);
        c.due("runNew", x.runNew(0, 0), -2);
        c.due("a stays", x.field(0), 3);
        c.due("h stays", x.field(7), -4);
        c.due("ACTS stay", x.did(), 2);
        Check.renew(x, 0, "when a=9{}else{a=8;}");
        c.due("another text is no run", x.field(0), 3);
        x.span(0, 0, 1, 2);
        c.due("a SPAN is no run", x.field(0), 3);
    }

    private static void didEdges() {
        CarriedWorks x = new CarriedWorks();
        Check.old(x, 0, "1:go 1;");
        Check.renew(x, 0, "when a=1{}".repeat(11) + "when a=0{}");
        x.run(0, 0);
        c.due("100 ACTS", x.did(), 100);
        x.runNew(0, 0);
        c.due("the 12th CASE", x.did(), 11);
        Check.renew(x, 0, "");
        x.runNew(0, 0);
        c.due("none", x.did(), -1);
        x.run(0, 0);
        c.due("100 ACTS", x.did(), 100);
    }
}
