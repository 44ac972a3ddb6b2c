/** Promises 12 to 16 and WAYS, COEFFICIENTS (term II) at their bounds and just beyond. */
public final class EdgeWaysTest {
    private static final int NOTHING = -2000000000;
    private static final Check c = new Check("edges of ways");

    public static void main(String[] args) {
        twoHundred();
        twoHundredAndOne();
        refusedWaysLeave();
        lastWay();
        lastLineOfAWay();
        mostLinesOfAWay();
        byTheirLeastInput();
        stopsAlike();
        aheadOfAnyWays();
        coefficientOfWhich();
        goesRoundAtTheEdge();
        aloneGoesRound();
        notDoneAtTheStop();
        deadBits();
        kindsEdges();
        waysOfThenNotNow();
        c.close();
    }

    /**
     * Each INPUT of a and b (b up to 99) is a WAY of its own: b by its bits, a by rounds. Where a is 0 at first it
     * STOPS 0, else 3.
     */
    static String ownWays() {
        StringBuilder text = new StringBuilder();
        int line = 1;
        for (int bit = 64; bit > 0; bit /= 2) {
            text.append(line).append(":if b<").append(bit).append(" go ").append(line + 2).append(";");
            text.append(line + 1).append(":set b=b-").append(bit).append(";");
            line += 2;
        }
        return text + "15:if a<1 go 19;16:set a=a-1;17:if a>0 go 16;18:go 0;19:stop;";
    }

    private static CarriedWorks wide(int a, int b) {
        CarriedWorks x = new CarriedWorks();
        c.due("LINES", Check.old(x, 0, ownWays()), 19);
        x.span(0, 0, 0, a - 1);
        c.due("INPUTS", x.span(0, 1, 0, b - 1), a * b);
        return x;
    }

    private static void twoHundred() {
        for (int[] size : new int[][] {{1, 1}, {1, 100}, {2, 100}, {4, 50}, {5, 40}, {3, 66}}) {
            int all = size[0] * size[1];
            for (int what = 0; what < 3; what++) {
                CarriedWorks x = wide(size[0], size[1]);
                c.due("WAYS", x.ways(0), all);
                for (int w = 0; w < all; w++) {
                    int stop = w < size[1] ? 0 : 3;
                    c.due("one INPUT, its least, STOPS: " + what, x.way(w, what, 0), what == 0 ? 1 : what == 1 ? w : stop);
                }
                c.due("no more", x.way(all, what, 0), -1);
            }
        }
    }

    /** -3: more than 200. */
    private static void twoHundredAndOne() {
        c.due("201", wide(3, 67).ways(0), -3);
        c.due("204", wide(4, 51).ways(0), -3);
        CarriedWorks x = wide(2, 100);
        c.due("200", x.ways(0), 200);
        x.span(0, 2, 0, 19);
        c.due("200 WAYS of 4000 INPUTS", x.ways(0), 200);
        c.due("20 INPUTS each", x.way(199, 0, 0), 20);
        c.due("the least of the last", x.way(199, 1, 0), 3980);
    }

    /** The latest ways() that told a number, whatever was refused since. */
    private static void refusedWaysLeave() {
        CarriedWorks x = wide(3, 67);
        Check.old(x, 1, "7:set h=2*c+1;8:go 10;9:stop;");
        x.span(1, 2, 0, 1);
        c.due("one", x.ways(1), 1);
        for (int p : new int[] {0, -1, 8, 2, Integer.MAX_VALUE}) {
            c.due("refused", x.ways(p), p == 0 ? -3 : -2);
            c.due("refused", x.make(p), p == 0 ? -3 : -2);
            c.due("INPUTS", x.way(0, 0, 0), 2);
            c.due("STOPS", x.way(0, 2, 0), 3);
            c.due("LINES", x.way(0, 3, 0), 2);
            c.due("LINE", x.way(0, 4, 1), 8);
            c.due("no more", x.way(1, 0, 0), -1);
            c.due("times c", x.rule(0, 7, 0), 2);
            c.due("alone", x.rule(0, 7, -1), 1);
            c.due("no second", x.rule(0, 7, 1), NOTHING);
            c.due("dead", x.dead(), 4);
            c.due("kinds", x.kinds(), 1);
        }
    }

    private static void lastWay() {
        CarriedWorks x = new CarriedWorks();
        Check.old(x, 0, "1:if a=1 go 3;2:set b=1;3:stop;");
        x.span(0, 0, 0, 2);
        c.due("two", x.ways(0), 2);
        int[][] due = {{2, 0, 0, 3}, {1, 1, 0, 2}};
        for (int w = 0; w < 2; w++) {
            for (int what = 0; what < 4; what++) {
                c.due("what " + what, x.way(w, what, 0), due[w][what]);
            }
        }
        for (int w : new int[] {-1, 2, 199, 200, Integer.MIN_VALUE, Integer.MAX_VALUE}) {
            for (int what = 0; what < 5; what++) {
                c.due("no such WAY", x.way(w, what, 0), -1);
            }
            c.due("no such WAY", x.rule(w, 0, 0), NOTHING);
            c.due("no such WAY", x.rule(w, 0, -1), NOTHING);
        }
        for (int what : new int[] {-1, 5, Integer.MIN_VALUE, Integer.MAX_VALUE}) {
            c.due("another what", x.way(0, what, 0), -1);
        }
    }

    private static void lastLineOfAWay() {
        CarriedWorks x = new CarriedWorks();
        Check.old(x, 0, "10:if a=1 go 999;20:set b=1;999:stop;");
        x.span(0, 0, 0, 1);
        x.ways(0);
        int[][] due = {{10, 20, 999}, {10, 999}};
        for (int w = 0; w < 2; w++) {
            for (int i = 0; i < due[w].length; i++) {
                c.due("LINE", x.way(w, 4, i), due[w][i]);
            }
            for (int i : new int[] {-1, due[w].length, 99, 100, Integer.MIN_VALUE, Integer.MAX_VALUE}) {
                c.due("no such LINE", x.way(w, 4, i), -1);
            }
        }
        Check.old(x, 0, "");
        c.due("one WAY of no LINE", x.ways(0), 1);
        c.due("LINES", x.way(0, 3, 0), 0);
        c.due("none", x.way(0, 4, 0), -1);
    }

    private static void mostLinesOfAWay() {
        CarriedWorks x = new CarriedWorks();
        Check.old(x, 0, "5:set a=a+1;6:if b=1 go 8;7:go 5;8:stop;");
        x.span(0, 1, 0, 1);
        c.due("two", x.ways(0), 2);
        c.due("100 LINES", x.way(0, 3, 0), 100);
        c.due("STOPS 4", x.way(0, 2, 0), 4);
        c.due("the first", x.way(0, 4, 0), 5);
        c.due("the last", x.way(0, 4, 99), 5);
        c.due("no more", x.way(0, 4, 100), -1);
        c.due("alone", x.rule(0, 0, -1), 34);
        c.due("3 LINES", x.way(1, 3, 0), 3);
        c.due("no more", x.way(1, 4, 3), -1);
        // the same 99 LINES and a 100th at which one STOPS 0, or 4 behind it
        Check.old(x, 0, "1:set a=49;2:set a=a-1;3:if a>0 go 2;4:if b=1 go 4;");
        c.due("two", x.ways(0), 2);
        c.due("STOPS 0", x.way(0, 2, 0), 0);
        c.due("100 LINES", x.way(0, 3, 0), 100);
        c.due("STOPS 4", x.way(1, 2, 0), 4);
        c.due("100 LINES", x.way(1, 3, 0), 100);
        c.due("the same last", x.way(0, 4, 99) - x.way(1, 4, 99), 0);
    }

    private static void byTheirLeastInput() {
        CarriedWorks x = new CarriedWorks();
        // 0 and 3, 1 and 2 go alike, 4 alone
        Check.old(x, 0, "1:if a=1 go 5;2:if a=2 go 5;3:if a=4 go 6;4:stop;5:stop;6:stop;");
        x.span(0, 0, 0, 4);
        c.due("WAYS", x.ways(0), 4);
        int[] leasts = {0, 1, 2, 4};
        int[] inputs = {2, 1, 1, 1};
        for (int w = 0; w < 4; w++) {
            c.due("least", x.way(w, 1, 0), leasts[w]);
            c.due("INPUTS", x.way(w, 0, 0), inputs[w]);
        }
    }

    /** The same LINES, but they STOP otherwise: other WAYS. */
    private static void stopsAlike() {
        CarriedWorks x = new CarriedWorks();
        x.span(0, 0, 0, 2);
        Check.old(x, 0, "1:if a=1 go 9;");
        c.due("0 and 3", x.ways(0), 2);
        c.due("0", x.way(0, 2, 0), 0);
        c.due("3", x.way(1, 2, 0), 3);
        Check.old(x, 0, "1:set b=9998+a;");
        c.due("0 and 2", x.ways(0), 2);
        c.due("0", x.way(0, 2, 0), 0);
        c.due("INPUTS", x.way(0, 0, 0), 2);
        c.due("2", x.way(1, 2, 0), 2);
        // whether an if held or not is no other WAY where the LINES are the same
        Check.old(x, 0, "1:if a=1 go 2;2:stop;");
        c.due("one", x.ways(0), 1);
    }

    private static void aheadOfAnyWays() {
        CarriedWorks x = new CarriedWorks();
        Check.old(x, 0, "1:stop;2:stop;");
        x.make(0);
        x.ways(1);
        for (int what = 0; what < 5; what++) {
            c.due("no WAY", x.way(0, what, 0), -1);
        }
        c.due("no WAY", x.rule(0, 0, -1), NOTHING);
        c.due("0 ahead of any", x.dead(), 0);
        c.due("0 ahead of any", x.kinds(), 0);
        c.due("PROGRAM -1", x.ways(-1), -2);
        c.due("PROGRAM 8", x.ways(8), -2);
        Check.old(x, 7, "");
        c.due("PROGRAM 7", x.ways(7), 1);
    }

    /** Promise 14: the i-th FIELD with a SPAN, NONE what stands alone. */
    private static void coefficientOfWhich() {
        CarriedWorks x = new CarriedWorks();
        Check.old(x, 0, "1:set h=2*b+3*c+5*h+7;");
        for (int spanned = 0; spanned <= 3; spanned++) {
            if (spanned > 0) {
                x.span(0, new int[] {1, 2, 7}[spanned - 1], 0, 0);
            }
            c.due("ways", x.ways(0), 1);
            int[] times = {2, 3, 5};
            c.due("alone", x.rule(0, 7, -1), 7);
            for (int i = 0; i < spanned; i++) {
                c.due("times", x.rule(0, 7, i), times[i]);
                c.due("times in a", x.rule(0, 0, i), 0);
            }
            for (int i : new int[] {-2, spanned, spanned + 1, 7, 8, Integer.MIN_VALUE, Integer.MAX_VALUE}) {
                c.due("no such FIELD with a SPAN", x.rule(0, 7, i), NOTHING);
            }
            for (int f : new int[] {-1, 8, Integer.MIN_VALUE, Integer.MAX_VALUE}) {
                c.due("no FIELD", x.rule(0, f, -1), NOTHING);
            }
        }
    }

    /** 32 bits that go round: the largest, and one more. */
    private static void goesRoundAtTheEdge() {
        CarriedWorks x = new CarriedWorks();
        x.span(0, 0, 0, 0);
        // a is 2^24 times a, so c is 2^31 - 1, d 2^31, e 2^31 + 1, f -2^31, g -2^31 - 1 times, h 2^32
        Check.old(x, 0, "1:set b=a;2:set a=4096*a;3:set a=4096*a;4:set c=128*a-b;5:set d=128*a;6:set e=128*a+b;"
                + "7:set f=-128*a;8:set g=-128*a-b;9:set h=256*a;");
        c.due("ways", x.ways(0), 1);
        long big = 1L << 31;
        long[] due = {1 << 24, 1, big - 1, -big, -big + 1, -big, big - 1, 0};
        for (int f = 0; f < 8; f++) {
            c.due("times a in FIELD " + f, x.rule(0, f, 0), due[f]);
            c.due("alone in FIELD " + f, x.rule(0, f, -1), 0);
        }
        // a COEFFICIENT may be what NOTHING is
        Check.old(x, 0, "1:set a=200*a;2:set a=1000*a;3:set a=-9999*a-a;");
        x.ways(0);
        c.due("-2000000000", x.rule(0, 0, 0), -2000000000);
    }

    private static void aloneGoesRound() {
        CarriedWorks x = new CarriedWorks();
        x.span(0, 0, 99, 99);
        Check.old(x, 0, "1:set b=100*a-9900;2:set b=9999*b;3:set b=9999*b;");
        c.due("ways", x.ways(0), 1);
        c.due("STOPS 0", x.way(0, 2, 0), 0);
        c.due("times a", x.rule(0, 1, 0), (int) (100L * 9999 * 9999));
        c.due("alone", x.rule(0, 1, -1), (int) (-9900L * 9999 * 9999));
    }

    /** A set at which it STOPS 2 is not done. */
    private static void notDoneAtTheStop() {
        CarriedWorks x = new CarriedWorks();
        Check.old(x, 0, "1:set b=3*a;2:set b=9996+b;3:set b=0;");
        x.span(0, 0, 1, 2);
        c.due("two", x.ways(0), 2);
        c.due("done: alone", x.rule(0, 1, -1), 0);
        c.due("done: times a", x.rule(0, 1, 0), 0);
        c.due("STOPS 2", x.way(1, 2, 0), 2);
        c.due("not done: alone", x.rule(1, 1, -1), 0);
        c.due("not done: times a", x.rule(1, 1, 0), 3);
        // ahead in the same WAY it was done, at the STOP it is not
        Check.old(x, 0, "1:set b=b+4000*a;2:go 1;");
        c.due("two", x.ways(0), 2);
        c.due("twice", x.rule(0, 1, 0), 8000);
        c.due("LINES", x.way(0, 3, 0), 5);
        c.due("once", x.rule(1, 1, 0), 4000);
        c.due("LINES", x.way(1, 3, 0), 3);
        // STOPS 3 and 4 leave all that was set
        Check.old(x, 0, "1:set b=5*a;2:go 0;");
        x.ways(0);
        c.due("STOPS 3", x.rule(0, 1, 0), 5);
        Check.old(x, 0, "1:set b=5*a;2:go 1;");
        x.ways(0);
        c.due("STOPS 4", x.rule(0, 1, 0), 5);
    }

    /** Promise 15: LINE by LINE from the first, by place and not by number. */
    private static void deadBits() {
        CarriedWorks x = new CarriedWorks();
        StringBuilder text = new StringBuilder("10:if a=1 go 33;");
        for (int line = 11; line <= 33; line++) {
            text.append(line).append(line == 11 ? ":go 10;" : ":stop;");
        }
        c.due("LINES", Check.old(x, 0, text.toString()), 24);
        x.ways(0);
        c.due("all but the first two", x.dead(), 0xfffffc);
        x.span(0, 0, 0, 1);
        x.ways(0);
        c.due("and the 24th", x.dead(), 0x7ffffc);
        x.span(0, 0, 1, 1);
        x.ways(0);
        c.due("the first and the 24th are done", x.dead(), 0x7ffffe);
        Check.old(x, 0, "999:stop;");
        x.ways(0);
        c.due("none", x.dead(), 0);
        Check.old(x, 0, "");
        x.ways(0);
        c.due("no LINES", x.dead(), 0);
        // a set at which it STOPS 2, a go at which it STOPS 3 are done
        Check.old(x, 0, "1:set b=9999+a;2:stop;");
        x.ways(0);
        c.due("the second", x.dead(), 2);
        Check.old(x, 0, "1:go 3;2:stop;");
        x.ways(0);
        c.due("the second", x.dead(), 2);
    }

    /** Promise 16: of like COEFFICIENTS in all FIELDS, and STOPS. */
    private static void kindsEdges() {
        CarriedWorks x = new CarriedWorks();
        x.span(0, 0, 0, 1);
        for (int f = 0; f < 8; f++) {
            char letter = (char) ('a' + f);
            Check.old(x, 0, "1:if a=1 go 3;2:stop;3:set " + letter + "=" + letter + "+1;");
            c.due("ways", x.ways(0), 2);
            c.due("another alone in " + letter, x.kinds(), 2);
            Check.old(x, 0, "1:if a=1 go 3;2:stop;3:set " + letter + "=" + letter + "+3*a;");
            x.ways(0);
            c.due("another COEFFICIENT in " + letter, x.kinds(), 2);
            Check.old(x, 0, "1:if a=1 go 3;2:stop;3:set " + letter + "=" + letter + ";");
            x.ways(0);
            c.due("the same in " + letter, x.kinds(), 1);
        }
        Check.old(x, 0, "1:if a=1 go 3;2:stop;3:go 0;");
        x.ways(0);
        c.due("another STOP", x.kinds(), 2);
        CarriedWorks y = wide(2, 100);
        y.ways(0);
        c.due("100 of less b, 100 of that and less a", y.kinds(), 200);
        Check.old(y, 0, ownWays().replace("19:stop;", "19:set b=0;20:stop;"));
        y.ways(0);
        c.due("b is 0 where it STOPS 0", y.kinds(), 101);
    }

    /** What was found stays, whatever is told of the PROGRAM since. */
    private static void waysOfThenNotNow() {
        CarriedWorks x = new CarriedWorks();
        Check.old(x, 0, "3:set b=2*a+1;4:stop;5:stop;");
        x.span(0, 0, 0, 3);
        x.ways(0);
        Check.old(x, 0, "1:go 1;");
        x.span(0, 0, 1, 0);
        x.make(0);
        x.ways(8);
        c.due("INPUTS", x.way(0, 0, 0), 4);
        c.due("LINE", x.way(0, 4, 1), 4);
        c.due("times a", x.rule(0, 1, 0), 2);
        c.due("dead", x.dead(), 4);
        c.due("kinds", x.kinds(), 1);
        x.ways(0);
        c.due("now another", x.way(0, 3, 0), 100);
        c.due("no FIELD with a SPAN", x.rule(0, 1, 0), NOTHING);
    }
}
