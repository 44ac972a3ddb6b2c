/** Promises 17 to 22: make, wish, casing, unlike, parts, where. */
public final class MakeTest {
    private static final int NOTHING = -2000000000;
    private static final Check c = new Check("made");

    public static void main(String[] args) {
        makes();
        leavesOutOtherStops();
        heldAtTheLeast();
        testsGoRound();
        tooMany();
        makeStates();
        wishes();
        wrongWishes();
        casings();
        unlikes();
        wrongUnlikes();
        c.close();
    }

    private static void makes() {
        CarriedWorks x = new CarriedWorks();
        Check.old(x, 0, "1:set c=2*a+b-1;2:if c<3 go 5;3:set d=c+a;4:stop;5:if b=0 go 7;6:set c=7;7:stop;");
        x.span(0, 0, 0, 4);
        x.span(0, 1, 0, 2);
        c.due("CASES", x.make(0), 3);
        c.due("BESIDE", x.state(0), 1);
        c.due("first: c<3 and b=0", x.casing(0, 0, 0, 0, 0), 2);
        c.due("second: c<3 and not b=0", x.casing(0, 1, 0, 0, 0), 2);
        c.due("third: not c<3", x.casing(0, 2, 0, 0, 0), 1);
        for (int i = 0; i < 3; i++) {
            c.due("PUTS", x.casing(0, i, 1, 0, 0), 8);
            for (int j = 0; j < 8; j++) {
                c.due("FIELD", x.casing(0, i, 4, j, 0), j);
            }
        }
        c.due("c: times a", x.casing(0, 0, 2, 2, 0), 2);
        c.due("c: times b", x.casing(0, 0, 2, 2, 1), 1);
        c.due("c: times c", x.casing(0, 0, 2, 2, 2), 0);
        c.due("c: alone", x.casing(0, 0, 3, 2, 0), -1);
        c.due("c of the second", x.casing(0, 1, 3, 2, 0), 7);
        c.due("d of the third: times a", x.casing(0, 2, 2, 3, 0), 3);
        c.due("d of the third: alone", x.casing(0, 2, 3, 3, 0), -1);
        c.due("a stays a", x.casing(0, 1, 2, 0, 0), 1);
        c.due("h is 0", x.casing(0, 1, 2, 7, 7), 0);
        c.due("alike at all", x.unlike(0), 0);
        for (int input = 0; input < 15; input++) {
            c.due("runNew", x.runNew(0, input), 0);
            int a = input / 3;
            int b = input % 3;
            c.due("the CASE", x.did(), 2 * a + b - 1 >= 3 ? 2 : b == 0 ? 0 : 1);
        }
    }

    private static void leavesOutOtherStops() {
        CarriedWorks x = new CarriedWorks();
        Check.old(x, 0, "1:if a=0 go 9;2:if a=1 go 2;3:set b=9997+a;4:stop;");
        x.span(0, 0, 0, 4);
        c.due("ways", x.ways(0), 4);
        c.due("one of these STOPS 0", x.make(0), 1);
        c.due("TESTS", x.casing(0, 0, 0, 0, 0), 2);
        c.due("UNLIKE", x.unlike(0), 2);
        c.due("0: STOPS 3, no CASE", x.where(0, 0), 256);
        c.due("1: STOPS 4, no CASE", x.where(0, 1), 256);
        c.due("2 is alike", x.where(0, 2), 0);
        c.due("3: both STOP 2", x.where(0, 3), 0);
        c.due("none of it", Check.old(x, 1, "1:go 1;"), 1);
        c.due("no CASES", x.make(1), 0);
        c.due("BESIDE", x.state(1), 1);
        c.due("STOPS 5", x.runNew(1, 0), 5);
    }

    private static void heldAtTheLeast() {
        CarriedWorks x = new CarriedWorks();
        // both ways on it goes to LINE 2: the TEST is as it was at INPUT 0
        Check.old(x, 0, "1:if a=0 go 2;2:set b=5;");
        x.span(0, 0, 0, 3);
        c.due("one CASE", x.make(0), 1);
        c.due("one TEST", x.casing(0, 0, 0, 0, 0), 1);
        c.due("it holds", x.runNew(0, 0), 0);
        c.due("it does not", x.runNew(0, 1), 5);
        c.due("UNLIKE", x.unlike(0), 3);
        c.due("where", x.where(0, 1), 256 | 2);
        Check.old(x, 1, "1:if a=1 go 2;2:set b=5;");
        x.span(1, 0, 0, 3);
        x.make(1);
        c.due("not so at 0", x.runNew(1, 0), 0);
        c.due("so at 1", x.runNew(1, 1), 5);
        c.due("not so at 2", x.runNew(1, 2), 0);
        // repeats are done, so they are TESTS
        Check.old(x, 2, "1:set a=a+1;2:if a<3 go 1;");
        x.make(2);
        c.due("three times", x.casing(2, 0, 0, 0, 0), 3);
        c.due("alike", x.unlike(2), 0);
    }

    private static void testsGoRound() {
        CarriedWorks x = new CarriedWorks();
        // 1048576 times b and 4096 times that: 0 in 32 bits, for b = 0 alone the OLD text comes so far
        Check.old(x, 0, "1:set a=4096*b;2:set a=256*a;3:set a=4096*a;4:if a=0 go 6;5:stop;6:set c=1;");
        x.span(0, 1, 0, 2);
        c.due("ways", x.ways(0), 2);
        c.due("goes round", x.rule(0, 0, 0), 0);
        c.due("make", x.make(0), 1);
        c.due("holds for all", x.runNew(0, 2), 0);
        c.due("a", x.field(0), 0);
        c.due("UNLIKE", x.unlike(0), 2);
        c.due("STOP, a, c", x.where(0, 1), 256 | 1 | 4);
    }

    private static void tooMany() {
        CarriedWorks x = new CarriedWorks();
        String rounds = "1:if a<1 go 4;2:set a=a-1;3:go 1;4:if b<1 go 7;5:set b=b-1;6:go 4;7:stop;";
        Check.old(x, 0, rounds);
        Check.renew(x, 0, "else{h=4;}");
        x.span(0, 0, 0, 4);
        x.span(0, 1, 0, 8);
        c.due("45", x.make(0), -3);
        c.due("the CASE stays", x.casing(0, 0, 3, 0, 0), 4);
        c.due("CASES", x.count(1), 1);
        x.span(0, 1, 0, 7);
        c.due("40", x.make(0), 40);
        c.due("TESTS of the last", x.casing(0, 39, 0, 0, 0), 5 + 8);
        c.due("no more", x.casing(0, 40, 0, 0, 0), NOTHING);
        c.due("alike", x.unlike(0), 0);
        c.due("CASES", x.count(1), 40);
        x.span(0, 0, 0, 9);
        x.span(0, 1, 0, 19);
        c.due("200 WAYS, 200 CASES", x.make(0), -3);
        c.due("40 stay", x.count(1), 40);
        // more than 200 WAYS, none of which STOPS 0
        Check.old(x, 1, "1:if a<1 go 4;2:set a=a-1;3:go 1;4:if b<1 go 7;5:set b=b-1;6:go 4;7:go 8;");
        x.span(1, 0, 0, 9);
        x.span(1, 1, 0, 19);
        c.due("no CASES", x.make(1), 0);
        x.span(1, 1, 0, 20);
        c.due("210 WAYS", x.make(1), -3);
    }

    private static void makeStates() {
        CarriedWorks x = new CarriedWorks();
        for (int p : new int[] {-1, 8, Integer.MIN_VALUE, Integer.MAX_VALUE}) {
            c.due("no PROGRAM", x.make(p), -2);
        }
        c.due("no text", x.make(0), -2);
        c.due("OLD still", x.state(0), 0);
        x.renew(0);
        c.due("no OLD text", x.make(0), -2);
        x.old(1);
        c.due("OLD", x.make(1), 1);
        c.due("BESIDE", x.make(1), 1);
        Check.sheet(x, 0, 0);
        x.night(1, 0);
        x.live(1);
        c.due("LIVE", x.make(1), -2);
        x.back(1);
        c.due("BACK", x.make(1), -2);
        x.live(1);
        x.retire(1);
        c.due("RETIRED", x.make(1), -2);
    }

    private static void wishes() {
        CarriedWorks x = new CarriedWorks();
        Check.old(x, 0, "1:set a=5;");
        x.make(0);
        c.due("one", x.wish(0, 0, 0, 99), 1);
        c.due("what stands alone", x.casing(0, 0, 3, 0, 0), 104);
        c.due("less", x.wish(0, 0, 0, -99), 2);
        c.due("as it was", x.casing(0, 0, 3, 0, 0), 5);
        c.due("none more", x.wish(0, 0, 7, 0), 3);
        c.due("still alike", x.unlike(0), 0);
        c.due("another FIELD", x.wish(0, 0, 7, 1), 4);
        c.due("unlike in h", x.where(0, 0), 128);
        Check.renew(x, 1, "when b=1{c=2*c+a;}else{h=3;b=4;}");
        c.due("of another PROGRAM", x.wish(1, 1, 1, 6), 5);
        c.due("PUT 1", x.casing(1, 1, 3, 1, 0), 10);
        c.due("PUT 0 stays", x.casing(1, 1, 3, 0, 0), 3);
        c.due("the first CASE", x.wish(1, 0, 2, -6), 6);
        c.due("alone", x.casing(1, 0, 3, 0, 0), -6);
        c.due("times c", x.casing(1, 0, 2, 0, 2), 2);
        c.due("how often", x.count(7), 6);
        for (int i = 0; i < 101; i++) {
            x.wish(1, 1, 7, 99);
        }
        c.due("alone", x.casing(1, 1, 3, 0, 0), 3 + 101 * 99);
        c.due("beyond 9999", x.runNew(1, 0), 2);
        c.due("all stay", x.field(1), 0);
    }

    private static void wrongWishes() {
        CarriedWorks x = new CarriedWorks();
        x.old(0);
        c.due("it is OLD", x.wish(0, 0, 0, 1), -2);
        Check.renew(x, 0, "else{b=1;}");
        c.due("no such PUT", x.wish(0, 0, 0, 1), -2);
        c.due("no FIELD", x.wish(0, 0, 8, 1), -2);
        c.due("no FIELD", x.wish(0, 0, -1, 1), -2);
        c.due("no CASE", x.wish(0, 1, 1, 1), -2);
        c.due("no CASE", x.wish(0, -1, 1, 1), -2);
        c.due("100", x.wish(0, 0, 1, 100), -2);
        c.due("-100", x.wish(0, 0, 1, -100), -2);
        c.due("no PROGRAM", x.wish(8, 0, 1, 1), -2);
        c.due("no PROGRAM", x.wish(-1, 0, 1, 1), -2);
        c.due("none was told", x.count(7), 0);
        c.due("nothing changed", x.casing(0, 0, 3, 0, 0), 1);
        x.sheet(0, 0, 0);
        x.night(0, 0);
        x.live(0);
        c.due("it is LIVE", x.wish(0, 0, 1, 1), -2);
        x.back(0);
        c.due("it is BACK", x.wish(0, 0, 1, 1), -2);
    }

    private static void casings() {
        CarriedWorks x = new CarriedWorks();
        c.due("no text", x.casing(0, 0, 0, 0, 0), NOTHING);
        Check.renew(x, 0, "when a<1 and b<1 and c<1{h=2*a+3*b-a+5-7;a=-h;}when 1=1{}else{c=0*c;}");
        c.due("TESTS", x.casing(0, 0, 0, 0, 0), 3);
        c.due("PUTS", x.casing(0, 0, 1, 0, 0), 2);
        c.due("what 0 needs no j", x.casing(0, 0, 0, -5, 77), 3);
        c.due("terms of one FIELD are one", x.casing(0, 0, 2, 0, 0), 1);
        c.due("times b", x.casing(0, 0, 2, 0, 1), 3);
        c.due("times h", x.casing(0, 0, 2, 0, 7), 0);
        c.due("alone", x.casing(0, 0, 3, 0, 0), -2);
        c.due("its FIELD", x.casing(0, 0, 4, 0, 0), 7);
        c.due("PUT 1: times h", x.casing(0, 0, 2, 1, 7), -1);
        c.due("PUT 1: its FIELD", x.casing(0, 0, 4, 1, 0), 0);
        c.due("no PUTS", x.casing(0, 1, 1, 0, 0), 0);
        c.due("no PUT", x.casing(0, 1, 3, 0, 0), NOTHING);
        c.due("else has no TESTS", x.casing(0, 2, 0, 0, 0), 0);
        c.due("0 times c", x.casing(0, 2, 2, 0, 2), 0);
        for (int wrong : new int[] {-1, 8, Integer.MIN_VALUE, Integer.MAX_VALUE}) {
            c.due("no PROGRAM", x.casing(wrong, 0, 0, 0, 0), NOTHING);
            c.due("no CASE", x.casing(0, wrong, 0, 0, 0), NOTHING);
            c.due("no what", x.casing(0, 0, wrong, 0, 0), NOTHING);
            c.due("no PUT", x.casing(0, 0, 2, wrong, 0), NOTHING);
            c.due("no PUT", x.casing(0, 0, 3, wrong, 0), NOTHING);
            c.due("no PUT", x.casing(0, 0, 4, wrong, 0), NOTHING);
            c.due("no FIELD", x.casing(0, 0, 2, 0, wrong), NOTHING);
        }
        c.due("a third CASE", x.casing(0, 3, 0, 0, 0), NOTHING);
        c.due("a third PUT", x.casing(0, 0, 4, 2, 0), NOTHING);
        c.due("what 5", x.casing(0, 0, 5, 0, 0), NOTHING);
    }

    private static void unlikes() {
        CarriedWorks x = new CarriedWorks();
        Check.old(x, 0, "1:set b=a;2:if a=2 go 9;");
        x.span(0, 0, 0, 4);
        Check.renew(x, 0, "when a<2{b=a;}when a=4{b=a+1;h=1;}else{b=a;}");
        c.due("2 and 4", x.unlike(0), 2);
        c.due("first", x.parts(0, 0), 2);
        c.due("from it on", x.parts(0, 2), 2);
        c.due("the next", x.parts(0, 3), 4);
        c.due("from the last on", x.parts(0, 4), 4);
        c.due("alike", x.where(0, 0), 0);
        c.due("they STOP otherwise", x.where(0, 2), 256);
        c.due("b and h", x.where(0, 4), 2 | 128);
        Check.renew(x, 0, "when a=2{}else{b=a;}");
        c.due("b and STOP", x.where(0, 2), 256 | 2);
        c.due("none behind", x.parts(0, 3), -1);
        Check.renew(x, 0, "when a=2{b=9999+1;}else{b=a;}");
        c.due("another STOP", x.where(0, 2), 256 | 2);
        Check.renew(x, 0, "when a=0{b=1;}when a=2{b=2;h=0*h;}else{b=a;}");
        c.due("0 and 2", x.unlike(0), 2);
        c.due("none behind the last INPUT", x.parts(0, 3), -1);
        // both STOP 2
        Check.old(x, 1, "1:set a=9999+1;");
        Check.renew(x, 1, "else{b=-9999-1;}");
        c.due("they STOP alike", x.unlike(1), 0);
        c.due("none", x.parts(1, 0), -1);
    }

    private static void wrongUnlikes() {
        CarriedWorks x = new CarriedWorks();
        c.due("no texts", x.unlike(0), -2);
        x.old(0);
        c.due("no NEW text", x.unlike(0), -2);
        c.due("no NEW text", x.parts(0, 0), -2);
        c.due("no NEW text", x.where(0, 0), -2);
        x.renew(1);
        c.due("no OLD text", x.unlike(1), -2);
        c.due("no OLD text", x.parts(1, 0), -2);
        c.due("no OLD text", x.where(1, 0), -2);
        x.make(0);
        for (int p : new int[] {-1, 8, Integer.MIN_VALUE, Integer.MAX_VALUE}) {
            c.due("no PROGRAM", x.unlike(p), -2);
            c.due("no PROGRAM", x.parts(p, 0), -2);
            c.due("no PROGRAM", x.where(p, 0), -2);
        }
        for (int input : new int[] {-1, 1, Integer.MIN_VALUE, Integer.MAX_VALUE}) {
            c.due("no INPUT", x.parts(0, input), -2);
            c.due("no INPUT", x.where(0, input), -2);
        }
    }
}
