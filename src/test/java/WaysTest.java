/** Promises 12 to 16: ways, way, rule, dead, kinds. */
public final class WaysTest {
    private static final int NOTHING = -2000000000;
    private static final Check c = new Check("ways");

    public static void main(String[] args) {
        branches();
        rules();
        sameNextLine();
        goesRound();
        rangeStop();
        unlikeStops();
        deadLines();
        likeKinds();
        tooMany();
        stays();
        wrong();
        c.close();
    }

    private static void wayIs(CarriedWorks x, int w, int inputs, int least, int stop, int... lines) {
        c.due("INPUTS of " + w, x.way(w, 0, 0), inputs);
        c.due("least of " + w, x.way(w, 1, 0), least);
        c.due("STOPS of " + w, x.way(w, 2, 0), stop);
        c.due("LINES of " + w, x.way(w, 3, 0), lines.length);
        for (int i = 0; i < lines.length; i++) {
            c.due("LINE " + i + " of " + w, x.way(w, 4, i), lines[i]);
        }
        c.due("no more of " + w, x.way(w, 4, lines.length), -1);
        c.due("none below of " + w, x.way(w, 4, -1), -1);
    }

    private static void branches() {
        CarriedWorks x = new CarriedWorks();
        Check.old(x, 2, "10:if a>2 go 40;20:set b=1;30:stop;40:if a=4 go 99;50:set b=2;");
        x.span(2, 0, 0, 5);
        c.due("ways", x.ways(2), 3);
        wayIs(x, 0, 3, 0, 0, 10, 20, 30);
        wayIs(x, 1, 2, 3, 0, 10, 40, 50);
        wayIs(x, 2, 1, 4, 3, 10, 40);
        c.due("no fourth", x.way(3, 0, 0), -1);
        c.due("all LINES are done", x.dead(), 0);
        c.due("of another kind each", x.kinds(), 3);
        c.due("an empty text", Check.old(x, 2, ""), 0);
        c.due("one", x.ways(2), 1);
        wayIs(x, 0, 6, 0, 0);
    }

    private static void ruleIs(CarriedWorks x, int w, int field, int alone, int... times) {
        c.due("alone", x.rule(w, field, -1), alone);
        for (int i = 0; i < times.length; i++) {
            c.due("times " + i, x.rule(w, field, i), times[i]);
        }
        c.due("no more", x.rule(w, field, times.length), NOTHING);
        c.due("below NONE", x.rule(w, field, -2), NOTHING);
    }

    private static void rules() {
        CarriedWorks x = new CarriedWorks();
        Check.old(x, 0, "1:set a=2*b-3*g+c+5;2:set b=a-a+4*b;3:set h=a-b;4:set c=c-1;5:set a=a;");
        x.span(0, 6, 0, 3);
        x.span(0, 1, -2, 2);
        c.due("ways", x.ways(0), 1);
        ruleIs(x, 0, 0, 5, 2, -3);
        ruleIs(x, 0, 1, 0, 4, 0);
        ruleIs(x, 0, 2, -1, 0, 0);
        ruleIs(x, 0, 3, 0, 0, 0);
        ruleIs(x, 0, 6, 0, 0, 1);
        ruleIs(x, 0, 7, 5, -2, -3);
        c.due("no FIELD", x.rule(0, 8, 0), NOTHING);
        c.due("no FIELD", x.rule(0, -1, 0), NOTHING);
        c.due("no WAY", x.rule(1, 0, 0), NOTHING);
        c.due("no WAY", x.rule(-1, 0, 0), NOTHING);
        x.span(0, 6, 1, 0);
        x.span(0, 1, 1, 0);
        c.due("without a SPAN", x.ways(0), 1);
        ruleIs(x, 0, 0, 5);
        ruleIs(x, 0, 7, 5);
        x.span(0, 0, 0, 1);
        x.span(0, 3, 0, 1);
        x.span(0, 7, 0, 1);
        c.due("three", x.ways(0), 1);
        ruleIs(x, 0, 3, 0, 0, 1, 0);
        ruleIs(x, 0, 0, 5, 0, 0, 0);
    }

    private static void sameNextLine() {
        CarriedWorks x = new CarriedWorks();
        Check.old(x, 0, "1:if a=0 go 2;2:stop;");
        x.span(0, 0, 0, 3);
        c.due("held or not, the LINES are the same", x.ways(0), 1);
        wayIs(x, 0, 4, 0, 0, 1, 2);
    }

    private static void goesRound() {
        CarriedWorks x = new CarriedWorks();
        // COEFFICIENTS of a: 9999, 99980001, then 999700029999 that goes round
        Check.old(x, 0, "1:set a=9999*a;2:set a=9999*a;3:set a=9999*a+1;4:set b=-9999*a;");
        x.span(0, 0, 0, 0);
        c.due("ways", x.ways(0), 1);
        ruleIs(x, 0, 0, 1, (int) 999700029999L);
        ruleIs(x, 0, 1, -9999, (int) (999700029999L * -9999L));
    }

    private static void rangeStop() {
        CarriedWorks x = new CarriedWorks();
        Check.old(x, 0, "1:set b=a;2:set b=9998+a;3:set c=1;");
        x.span(0, 0, 0, 3);
        c.due("ways", x.ways(0), 2);
        wayIs(x, 0, 2, 0, 0, 1, 2, 3);
        wayIs(x, 1, 2, 2, 2, 1, 2);
        ruleIs(x, 0, 1, 9998, 1);
        ruleIs(x, 1, 1, 0, 1);
        ruleIs(x, 1, 2, 0, 0);
        // a set that was done ahead in a loop stops the second time
        Check.old(x, 0, "1:set b=b+9000;2:go 1;");
        c.due("ways", x.ways(0), 1);
        wayIs(x, 0, 4, 0, 2, 1, 2, 1);
        ruleIs(x, 0, 1, 9000, 0);
    }

    private static void unlikeStops() {
        CarriedWorks x = new CarriedWorks();
        // the same LINES, but one STOPS 3, one 0
        Check.old(x, 0, "1:if a=1 go 9;");
        x.span(0, 0, 0, 1);
        c.due("ways", x.ways(0), 2);
        wayIs(x, 0, 1, 0, 0, 1);
        wayIs(x, 1, 1, 1, 3, 1);
        c.due("of two kinds", x.kinds(), 2);
        // and 2 and 0 at a set that is the last LINE
        Check.old(x, 0, "1:set b=9999+a;");
        c.due("ways", x.ways(0), 2);
        wayIs(x, 0, 1, 0, 0, 1);
        wayIs(x, 1, 1, 1, 2, 1);
        // 100 ACTS
        Check.old(x, 0, "7:go 7;");
        c.due("ways", x.ways(0), 1);
        c.due("STOPS 4", x.way(0, 2, 0), 4);
        c.due("LINES", x.way(0, 3, 0), 100);
        c.due("the last", x.way(0, 4, 99), 7);
        c.due("no more", x.way(0, 4, 100), -1);
    }

    private static void deadLines() {
        CarriedWorks x = new CarriedWorks();
        Check.old(x, 0, "10:go 30;20:set a=1;30:if a=5 go 20;40:stop;50:stop;");
        c.due("ways", x.ways(0), 1);
        c.due("the second and the fifth", x.dead(), 2 | 16);
        x.span(0, 0, 5, 6);
        c.due("of the latest ways()", x.dead(), 2 | 16);
        c.due("ways", x.ways(0), 2);
        c.due("the fifth", x.dead(), 16);
        Check.old(x, 0, "1:stop;2:stop;3:stop;4:stop;5:stop;6:stop;7:stop;8:stop;9:stop;10:stop;11:stop;12:stop;"
                + "13:stop;14:stop;15:stop;16:stop;17:stop;18:stop;19:stop;20:stop;21:stop;22:stop;23:stop;24:stop;");
        x.ways(0);
        c.due("23 of 24", x.dead(), 0xfffffe);
    }

    private static void likeKinds() {
        CarriedWorks x = new CarriedWorks();
        Check.old(x, 0, "1:if a=0 go 4;2:set b=a+1;3:stop;4:set b=1+a;5:stop;");
        x.span(0, 0, 0, 3);
        c.due("two WAYS", x.ways(0), 2);
        c.due("one KIND", x.kinds(), 1);
        Check.old(x, 0, "1:if a=0 go 4;2:set b=a+1;3:stop;4:set b=2+a;5:stop;");
        x.ways(0);
        c.due("what stands alone is another", x.kinds(), 2);
        Check.old(x, 0, "1:if a=0 go 4;2:set h=a+1;3:stop;4:set h=1+2*a;5:stop;");
        x.ways(0);
        c.due("a COEFFICIENT is another", x.kinds(), 2);
        Check.old(x, 0, "1:if a=0 go 4;2:stop;4:go 9;");
        x.ways(0);
        c.due("STOPS are others", x.kinds(), 2);
        Check.old(x, 0, "1:if a=0 go 4;2:stop;4:set a=2*a;");
        x.ways(0);
        c.due("the first COEFFICIENT of the first FIELD", x.kinds(), 2);
        Check.old(x, 0, "1:if a=0 go 4;2:stop;4:set h=1;");
        x.ways(0);
        c.due("the last of the last FIELD", x.kinds(), 2);
    }

    private static void tooMany() {
        CarriedWorks x = new CarriedWorks();
        // so many rounds as a and b begin with: each INPUT is a WAY of its own
        String text = "1:if a<1 go 4;2:set a=a-1;3:go 1;4:if b<1 go 7;5:set b=b-1;6:go 4;7:stop;";
        Check.old(x, 0, text);
        x.span(0, 0, 0, 9);
        x.span(0, 1, 0, 19);
        c.due("200", x.ways(0), 200);
        wayIs(x, 1, 1, 1, 0, 1, 4, 5, 6, 4, 7);
        c.due("the last", x.way(199, 1, 0), 199);
        c.due("STOPS", x.way(199, 2, 0), 0);
        c.due("LINES", x.way(199, 3, 0), 27 + 57 + 3);
        c.due("no more", x.way(200, 1, 0), -1);
        c.due("each less another number", x.kinds(), 200);
        ruleIs(x, 199, 0, -9, 1, 0);
        ruleIs(x, 199, 1, -19, 0, 1);
    }

    private static void stays() {
        CarriedWorks x = new CarriedWorks();
        String text = "1:if a<1 go 4;2:set a=a-1;3:go 1;4:if b<1 go 7;5:set b=b-1;6:go 4;7:stop;";
        Check.old(x, 0, text);
        x.span(0, 0, 0, 9);
        x.span(0, 1, 0, 20);
        Check.old(x, 1, "5:go 7;6:stop;7:set h=3;");
        c.due("of another", x.ways(1), 1);
        c.due("more than 200", x.ways(0), -3);
        c.due("make, too", x.make(0), -3);
        c.due("no text", x.ways(2), -2);
        wayIs(x, 0, 1, 0, 0, 5, 7);
        ruleIs(x, 0, 7, 3);
        c.due("dead", x.dead(), 2);
        c.due("kinds", x.kinds(), 1);
        Check.old(x, 1, "1:stop;");
        x.span(1, 0, 0, 1);
        wayIs(x, 0, 1, 0, 0, 5, 7);
        ruleIs(x, 0, 7, 3);
        x.make(1);
        wayIs(x, 0, 1, 0, 0, 5, 7);
        c.due("dead", x.dead(), 2);
        x.keep(0);
        x.ways(1);
        x.restore(0);
        wayIs(x, 0, 2, 0, 0, 1);
    }

    private static void wrong() {
        CarriedWorks x = new CarriedWorks();
        for (int p : new int[] {-1, 8, Integer.MIN_VALUE, Integer.MAX_VALUE}) {
            c.due("no PROGRAM", x.ways(p), -2);
        }
        c.due("no text", x.ways(0), -2);
        x.renew(0);
        c.due("a NEW text alone", x.ways(0), -2);
        c.due("no WAY", x.way(0, 0, 0), -1);
        c.due("dead", x.dead(), 0);
        c.due("kinds", x.kinds(), 0);
        x.old(1);
        x.ways(1);
        for (int what : new int[] {-1, 5, Integer.MIN_VALUE, Integer.MAX_VALUE}) {
            c.due("another what", x.way(0, what, 0), -1);
        }
        for (int w : new int[] {-1, 1, Integer.MIN_VALUE, Integer.MAX_VALUE}) {
            c.due("another WAY", x.way(w, 0, 0), -1);
            c.due("another WAY", x.rule(w, 0, -1), NOTHING);
        }
        for (int i : new int[] {-2, 0, Integer.MIN_VALUE, Integer.MAX_VALUE}) {
            c.due("another i", x.way(0, 4, i), -1);
            c.due("another i", x.rule(0, 0, i), NOTHING);
        }
    }
}
