/** Promises 7 to 11: span, run, runNew, field, did. */
public final class RunTest {
    private static final Check c = new Check("runs");

    public static void main(String[] args) {
        spans();
        spanBounds();
        spanStates();
        inputsInOrder();
        acts();
        stops();
        hundredActs();
        cases();
        caseStops();
        wrongRuns();
        latest();
        c.close();
    }

    private static void spans() {
        CarriedWorks x = new CarriedWorks();
        c.due("one", x.span(0, 0, 5, 5), 1);
        c.due("two", x.span(0, 7, -99, 99), 199);
        c.due("three", x.span(0, 3, 0, 19), 3980);
        c.due("a fourth", x.span(0, 1, 0, 0), -3);
        c.due("a fourth that is none", x.span(0, 1, 1, 0), 3980);
        c.due("too many INPUTS", x.span(0, 0, 0, 1), -3);
        c.due("that stayed", x.span(0, 1, 3, -3), 3980);
        c.due("another SPAN of one that has one", x.span(0, 3, 1, 2), 398);
        c.due("none", x.span(0, 7, 0, -1), 2);
        c.due("a third again", x.span(0, 1, 1, 3), 6);
        c.due("4096", x.span(1, 0, 0, 63), 64);
        c.due("4096", x.span(1, 1, 0, 63), 4096);
        c.due("one more", x.span(1, 2, 7, 7), 4096);
        c.due("4160", x.span(1, 1, 0, 64), -3);
        c.due("8192", x.span(1, 2, 0, 1), -3);
        c.due("less", x.span(1, 1, 0, 31), 2048);
        c.due("4096", x.span(1, 2, 0, 1), 4096);
    }

    private static void spanBounds() {
        CarriedWorks x = new CarriedWorks();
        c.due("-100", x.span(0, 0, -100, 0), -2);
        c.due("100", x.span(0, 0, 0, 100), -2);
        c.due("100 above high", x.span(0, 0, 100, 0), -2);
        c.due("high -100", x.span(0, 0, 0, -100), -2);
        c.due("far", x.span(0, 0, Integer.MIN_VALUE, Integer.MAX_VALUE), -2);
        c.due("no FIELD", x.span(0, 8, 0, 1), -2);
        c.due("no FIELD", x.span(0, -1, 0, 1), -2);
        c.due("no PROGRAM", x.span(8, 0, 0, 1), -2);
        c.due("no PROGRAM", x.span(-1, 0, 0, 1), -2);
        c.due("nothing came of these", x.span(0, 1, 1, 0), 1);
    }

    private static void spanStates() {
        CarriedWorks x = new CarriedWorks();
        c.due("old", x.old(0), 0);
        c.due("make", x.make(0), 1);
        c.due("BESIDE", x.span(0, 0, 0, 1), 2);
        x.sheet(0, 0, 0);
        x.night(0, 0);
        c.due("live", x.live(0), 0);
        c.due("LIVE", x.span(0, 0, 0, 2), -2);
        c.due("two INPUTS still", x.run(0, 1), 0);
        c.due("no third", x.run(0, 2), -2);
        x.back(0);
        c.due("BACK", x.span(0, 0, 0, 2), -2);
        x.live(0);
        x.retire(0);
        c.due("RETIRED", x.span(0, 0, 0, 2), -2);
    }

    private static void inputsInOrder() {
        CarriedWorks x = new CarriedWorks();
        x.old(0);
        x.span(0, 6, 3, 4);
        x.span(0, 1, -1, 1);
        x.span(0, 4, 0, 1);
        int input = 0;
        for (int b = -1; b <= 1; b++) {
            for (int e = 0; e <= 1; e++) {
                for (int g = 3; g <= 4; g++) {
                    c.due("run", x.run(0, input), 0);
                    c.due("b", x.field(1), b);
                    c.due("e", x.field(4), e);
                    c.due("g", x.field(6), g);
                    c.due("a", x.field(0), 0);
                    c.due("h", x.field(7), 0);
                    input++;
                }
            }
        }
        c.due("no more", x.run(0, input), -2);
        c.due("below 0", x.run(0, -1), -2);
        x.span(0, 4, 1, 0);
        c.due("of two", x.run(0, 3), 0);
        c.due("b", x.field(1), 0);
        c.due("g", x.field(6), 4);
        c.due("e", x.field(4), 0);
    }

    /** Runs a text with its only INPUT. */
    private static void runs(String text, int stop, int acts, int a, int b) {
        CarriedWorks x = new CarriedWorks();
        c.holds("read " + text, Check.old(x, 0, text) >= 0);
        c.due("run " + text, x.run(0, 0), stop);
        c.due("ACTS of " + text, x.did(), acts);
        c.due("a of " + text, x.field(0), a);
        c.due("b of " + text, x.field(1), b);
    }

    private static void acts() {
        runs("", 0, 0, 0, 0);
        runs("1:stop;2:set a=1;", 0, 1, 0, 0);
        runs("1:set a=1;", 0, 1, 1, 0);
        runs("1:set a=-3;2:set b=2*a-a-4+a;", 0, 2, -3, -10);
        runs("1:set a=3;2:set a=a+a;3:set b=-a-2*a+1;", 0, 3, 6, -17);
        runs("1:go 3;2:set a=1;3:set b=2;", 0, 2, 0, 2);
        runs("1:set a=1;2:if a=1 go 4;3:set b=5;4:stop;", 0, 3, 1, 0);
        runs("1:set a=1;2:if a=2 go 4;3:set b=5;4:stop;", 0, 4, 1, 5);
        runs("1:set a=1;2:if a<1 go 4;3:set b=5;4:stop;", 0, 4, 1, 5);
        runs("1:set a=1;2:if a<2 go 4;3:set b=5;4:stop;", 0, 3, 1, 0);
        runs("1:set a=1;2:if a>0 go 4;3:set b=5;4:stop;", 0, 3, 1, 0);
        runs("1:set a=1;2:if a>1 go 4;3:set b=5;4:stop;", 0, 4, 1, 5);
        runs("1:set a=-1;2:if a<0 go 4;3:set b=5;4:stop;", 0, 3, -1, 0);
        runs("1:set b=b+1;2:if b<5 go 1;3:set a=b;", 0, 11, 5, 5);
    }

    private static void stops() {
        runs("1:set a=9999;2:set b=-9999;", 0, 2, 9999, -9999);
        runs("1:set a=9999+1;2:set b=1;", 2, 1, 0, 0);
        runs("1:set a=5;2:set a=-9999-1;3:set b=1;", 2, 2, 5, 0);
        runs("1:set a=9999;2:set b=9999*a-9999*a+1;", 0, 2, 9999, 1);
        runs("1:set a=9999;2:set a=9999*a+9999*a+9999*a+9999*a+9999*a+9999*a;", 2, 2, 9999, 0);
        runs("1:set a=-9999;2:set a=9999*a+9999*a+9999*a+9999*a+9999*a+9999*a;", 2, 2, -9999, 0);
        runs("1:go 2;", 3, 1, 0, 0);
        runs("1:go 0;", 3, 1, 0, 0);
        runs("1:set a=1;2:if a=1 go 5;3:set b=1;", 3, 2, 1, 0);
        runs("1:set a=1;2:if a=2 go 5;3:set b=1;", 0, 3, 1, 1);
    }

    private static void hundredActs() {
        runs("1:go 1;", 4, 100, 0, 0);
        runs("1:set a=a+1;2:go 1;", 4, 100, 50, 0);
        // a LINE and 49 rounds of two, and one more that stops or comes behind the last LINE
        runs("1:set a=49;2:set a=a-1;3:if a>0 go 2;4:stop;", 0, 100, 0, 0);
        runs("1:set a=49;2:set a=a-1;3:if a>0 go 2;4:set b=1;", 0, 100, 0, 1);
        runs("1:set a=49;2:set a=a-1;3:if a>0 go 2;4:go 9;", 3, 100, 0, 0);
        runs("1:set a=49;2:set a=a-1;3:if a>0 go 2;4:set b=9999+1;", 2, 100, 0, 0);
        runs("1:set a=49;2:set a=a-1;3:if a>0 go 2;4:set b=1;5:stop;", 4, 100, 0, 1);
        runs("1:set b=0;2:set a=49;3:set a=a-1;4:if a>0 go 3;5:stop;", 4, 100, 0, 0);
    }

    /** Runs a NEW text with a and b as they begin. */
    private static void chooses(String text, int a, int b, int stop, int chosen, int aThen, int bThen) {
        CarriedWorks x = new CarriedWorks();
        x.span(0, 0, a, a);
        x.span(0, 1, b, b);
        c.holds("read " + text, Check.renew(x, 0, text) >= 0);
        c.due("runNew " + text, x.runNew(0, 0), stop);
        c.due("CASE of " + text, x.did(), chosen);
        c.due("a of " + text, x.field(0), aThen);
        c.due("b of " + text, x.field(1), bThen);
    }

    private static void cases() {
        chooses("else{}", 1, 2, 0, 0, 1, 2);
        chooses("else{a=b;b=a;}", 1, 2, 0, 0, 2, 1);
        chooses("else{b=a;a=b;}", 1, 2, 0, 0, 2, 1);
        chooses("when a=0{a=9;}when a=1{a=8;}else{a=7;}", 1, 2, 0, 1, 8, 2);
        chooses("when a=0{a=9;}when a>0{a=8;}when a=1{a=5;}else{a=7;}", 1, 2, 0, 1, 8, 2);
        chooses("when a=0{a=9;}when a=2{a=8;}else{a=7;}", 1, 2, 0, 2, 7, 2);
        chooses("when a=1 and b=3{a=9;}when a=1 and b=2{b=-a-b;}", 1, 2, 0, 1, 1, -3);
        chooses("when 2*a-b<1 and a+b>2 and a-b<0 and 7=7{a=4;}", 1, 2, 0, 0, 4, 2);
        chooses("when 2*a-b<1 and a+b>2 and a-b<0 and 7=8{a=4;}", 1, 2, 5, -1, 1, 2);
        chooses("when 9999*b+9999*b+9999*b+9999*b+9999*b+9999*b>9999{a=4;}", 1, 99, 0, 0, 4, 99);
    }

    private static void caseStops() {
        chooses("", 1, 2, 5, -1, 1, 2);
        chooses("when a=2{}", 1, 2, 5, -1, 1, 2);
        chooses("else{b=7;a=9999+a;}", 1, 2, 2, 0, 1, 2);
        chooses("else{a=9999+a;b=7;}", 1, 2, 2, 0, 1, 2);
        chooses("when a=2{}else{a=-9999-a;b=7;}", 1, 2, 2, 1, 1, 2);
        chooses("else{a=9998+a;b=-9997-b;}", 1, 2, 0, 0, 9999, -9999);
    }

    private static void wrongRuns() {
        CarriedWorks x = new CarriedWorks();
        c.due("no text", x.run(0, 0), -2);
        c.due("no text", x.runNew(0, 0), -2);
        x.old(0);
        c.due("no NEW text", x.runNew(0, 0), -2);
        x.renew(1);
        c.due("no OLD text", x.run(1, 0), -2);
        c.due("a NEW one", x.runNew(1, 0), 5);
        for (int p : new int[] {-1, 8, Integer.MIN_VALUE, Integer.MAX_VALUE}) {
            c.due("no PROGRAM", x.run(p, 0), -2);
            c.due("no PROGRAM", x.runNew(p, 0), -2);
        }
        for (int input : new int[] {-1, 1, Integer.MIN_VALUE, Integer.MAX_VALUE}) {
            c.due("no INPUT", x.run(0, input), -2);
            c.due("no INPUT", x.runNew(1, input), -2);
        }
    }

    private static void latest() {
        CarriedWorks x = new CarriedWorks();
        c.due("0 ahead of any", x.field(7), 0);
        c.due("NONE ahead of any", x.did(), -1);
        for (int f : new int[] {-1, 8, Integer.MIN_VALUE, Integer.MAX_VALUE}) {
            c.due("no FIELD", x.field(f), -1);
        }
        Check.old(x, 0, "1:set a=4;2:set h=5;3:stop;");
        Check.renew(x, 0, "when b=1{}else{h=6;}");
        x.run(0, 0);
        c.due("a", x.field(0), 4);
        c.due("h", x.field(7), 5);
        c.due("ACTS", x.did(), 3);
        x.run(0, 1);
        x.runNew(0, 1);
        x.runNew(7, 0);
        c.due("those did not run", x.did(), 3);
        c.due("those did not run", x.field(7), 5);
        x.unlike(0);
        x.where(0, 0);
        x.parts(0, 0);
        x.ways(0);
        Check.sheet(x, 0, 0, 0);
        x.night(0, 0);
        x.make(0);
        c.due("these are no runs", x.did(), 3);
        c.due("these are no runs", x.field(0), 4);
        Check.renew(x, 0, "when b=1{}else{h=6;}");
        c.due("runNew", x.runNew(0, 0), 0);
        c.due("CASE", x.did(), 1);
        c.due("a", x.field(0), 0);
        c.due("h", x.field(7), 6);
    }
}
