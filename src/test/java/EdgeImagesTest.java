/** Promises 40 to 42: counts at 0 and at their most, IMAGES at their bounds, and what is no part of them. */
public final class EdgeImagesTest {
    private static final Check c = new Check("edges of images");

    public static void main(String[] args) {
        countEdges();
        mostLinesAndCases();
        allStates();
        imageNumbers();
        emptyImages();
        refusedImagesLeave();
        keptOverAnother();
        imageOfANewObject();
        fullTexts();
        everyActAndSpan();
        noneToThreeSpans();
        tapeAndSlotsStay();
        foundStays();
        everyPartComesBack();
        nightsOfAnImage();
        heapsOfAnImage();
        c.close();
    }

    /** Promise 40: what 0 .. 10. */
    private static void countEdges() {
        CarriedWorks x = new CarriedWorks();
        for (int what = 0; what <= 10; what++) {
            c.due("what " + what, x.count(what), 0);
        }
        for (int what : new int[] {-1, 11, Integer.MIN_VALUE, Integer.MAX_VALUE}) {
            c.due("what " + what, x.count(what), -1);
        }
        x.feed(0, 0, 0, 0, 0);
        c.due("bytes", x.count(5), 20);
        x.end(19);
        c.due("bytes", x.count(5), 19);
        for (int slot = 0; slot < 4; slot++) {
            x.sheet(slot, 0, slot);
            c.due("SLOTS, one without numbers too", x.count(9), slot + 1);
        }
        x.sheet(0, 3, 60);
        c.due("SLOTS", x.count(9), 4);
    }

    private static String lines(int n) {
        StringBuilder text = new StringBuilder();
        for (int i = 1; i <= n; i++) {
            text.append(i).append(":stop;");
        }
        return text.toString();
    }

    private static void mostLinesAndCases() {
        CarriedWorks x = new CarriedWorks();
        for (int p = 0; p < 8; p++) {
            Check.old(x, p, lines(24));
            c.due("LINES of all", x.count(0), 24 * (p + 1));
        }
        for (int p = 0; p < 8; p++) {
            Check.renew(x, p, "when 1=1{}".repeat(12));
            c.due("CASES of all", x.count(1), 12 * (p + 1));
            c.due("BESIDE", x.count(4), p + 1);
        }
        x.make(7);
        c.due("CASES MADE, too", x.count(1), 12 * 7 + 1);
        Check.renew(x, 7, "");
        c.due("none of the last", x.count(1), 12 * 7);
        c.due("LINES stay", x.count(0), 24 * 8);
    }

    private static void allStates() {
        CarriedWorks x = new CarriedWorks();
        for (int p = 0; p < 8; p++) {
            CutOverTest.goLive(x, p);
            c.due("LIVE", x.count(2), p + 1);
            c.due("BESIDE", x.count(4), 0);
        }
        for (int p = 0; p < 8; p++) {
            x.retire(p);
            c.due("LIVE", x.count(2), 7 - p);
            c.due("RETIRED", x.count(3), p + 1);
        }
        c.due("NIGHTS", x.count(6), 8);
        CarriedWorks y = new CarriedWorks();
        CutOverTest.goLive(y, 0);
        y.back(0);
        for (int what = 2; what <= 4; what++) {
            c.due("BACK is none of these", y.count(what), 0);
        }
    }

    /** Promises 41 and 42: 0 .. 2. */
    private static void imageNumbers() {
        CarriedWorks x = new CarriedWorks();
        for (int k = 0; k < 3; k++) {
            x.put(0, 0, k);
            c.due("keep", x.keep(k), 0);
        }
        for (int k : new int[] {-1, 3, Integer.MIN_VALUE, Integer.MAX_VALUE}) {
            c.due("keep(" + k + ")", x.keep(k), -2);
            c.due("restore(" + k + ")", x.restore(k), -2);
        }
        for (int k = 0; k < 3; k++) {
            c.due("restore", x.restore(k), 0);
            c.due("its ROW", x.row(0, 0), k);
        }
    }

    /** Promise 42: -6: it has nothing. */
    private static void emptyImages() {
        for (int kept = 0; kept < 3; kept++) {
            CarriedWorks x = new CarriedWorks();
            for (int k = 0; k < 3; k++) {
                c.due("nothing", x.restore(k), -6);
            }
            x.keep(kept);
            for (int k = 0; k < 3; k++) {
                c.due("IMAGE " + k, x.restore(k), k == kept ? 0 : -6);
            }
        }
    }

    private static void refusedImagesLeave() {
        CarriedWorks x = new CarriedWorks();
        x.put(0, 0, 1);
        x.keep(0);
        x.put(0, 0, 2);
        c.due("refused", x.keep(3), -2);
        c.due("refused", x.restore(3), -2);
        c.due("refused", x.restore(1), -6);
        c.due("as it was", x.row(0, 0), 2);
        c.due("writes", x.row(0, 3), 2);
        c.due("IMAGE 1 has nothing still", x.restore(1), -6);
        x.restore(0);
        c.due("IMAGE 0", x.row(0, 0), 1);
    }

    private static void keptOverAnother() {
        CarriedWorks x = new CarriedWorks();
        Check.old(x, 0, lines(24));
        x.keep(1);
        Check.old(x, 0, "1:stop;");
        x.keep(1);
        Check.old(x, 0, lines(5));
        x.restore(1);
        c.due("the latest kept", x.count(0), 1);
        x.restore(1);
        c.due("once more", x.count(0), 1);
    }

    private static void imageOfANewObject() {
        CarriedWorks x = new CarriedWorks();
        x.keep(2);
        for (int p = 0; p < 8; p++) {
            CutOverTest.goLive(x, p);
        }
        x.calls(0, 1, 5);
        x.needs(0, 1);
        x.form(3, 3);
        x.put(0, 1, 5);
        x.restore(2);
        for (int p = 0; p < 8; p++) {
            c.due("OLD", x.state(p), 0);
            c.due("no text", x.run(p, 0), -2);
            c.due("no text", x.runNew(p, 0), -2);
            c.due("no CASES", x.casing(p, 0, 0, 0, 0), -2000000000);
        }
        for (int what = 0; what <= 10; what++) {
            c.due("count " + what, x.count(what), what == 9 ? 1 : 0);
        }
        c.due("no calls", x.calls(0, 1, -1), -1);
        c.due("no needs", x.needs(1, 0), 0);
        c.due("FORM 1, 0", x.put(0, 0, 4) + x.lead(0), 1 + 4);
    }

    /** Texts and CASES of their full length in all PROGRAMS come back. */
    private static void fullTexts() {
        CarriedWorks x = new CarriedWorks();
        for (int p = 0; p < 8; p++) {
            Check.old(x, p, EdgeWaysTest.ownWays());
            x.span(p, 1, 0, 39);
            c.due("make", x.make(p), 40);
        }
        for (int k = 0; k < 3; k++) {
            x.keep(k);
        }
        for (int p = 0; p < 8; p++) {
            Check.renew(x, p, "else{}");
        }
        c.due("8", x.count(1), 8);
        for (int k = 2; k >= 0; k--) {
            x.restore(k);
            c.due("320", x.count(1), 320);
            for (int p = 0; p < 8; p++) {
                c.due("alike at all", x.unlike(p), 0);
            }
        }
    }

    /** Each part of an OLD text and of SPANS: another text of as many LINES in between leaves nothing. */
    private static void everyActAndSpan() {
        CarriedWorks x = new CarriedWorks();
        Check.old(x, 0, "11:if d<2 go 33;22:go 5;33:set b=3*d+1;44:if b>1 go 66;55:stop;66:set h=2;");
        x.span(0, 3, 0, 2);
        x.span(0, 6, 7, 8);
        x.keep(0);
        Check.old(x, 0, "1:set c=9;2:set g=a-f;3:set h=1;4:set c=3*c-g;5:if h=0 go 1;6:go 2;");
        x.span(0, 3, 1, 0);
        x.span(0, 6, 1, 0);
        x.span(0, 0, 5, 6);
        x.span(0, 5, 1, 9);
        x.keep(1);
        x.restore(0);
        textOfImageZero(x);
        x.restore(1);
        c.due("ways", x.ways(0), 1);
        c.due("INPUTS", x.way(0, 0, 0), 18);
        c.due("LINES: one, six rounds of five, and three", x.way(0, 3, 0), 34);
        c.due("STOPS 2: c grows by three times", x.way(0, 2, 0), 2);
        x.restore(0);
        textOfImageZero(x);
    }

    private static void textOfImageZero(CarriedWorks x) {
        c.due("ways", x.ways(0), 3);
        int[][] lines = {{11, 33, 44, 55}, {11, 33, 44, 66}, {11, 22}};
        int[] stops = {0, 0, 3};
        for (int w = 0; w < 3; w++) {
            c.due("INPUTS", x.way(w, 0, 0), 2);
            c.due("STOPS", x.way(w, 2, 0), stops[w]);
            c.due("LINES", x.way(w, 3, 0), lines[w].length);
            for (int i = 0; i < lines[w].length; i++) {
                c.due("LINE", x.way(w, 4, i), lines[w][i]);
            }
        }
        c.due("times d", x.rule(0, 1, 0), 3);
        c.due("run", x.run(0, 3), 0);
        int[] fields = {0, 4, 0, 1, 0, 0, 8, 2};
        for (int f = 0; f < 8; f++) {
            c.due("FIELD " + f, x.field(f), fields[f]);
        }
        c.due("6 INPUTS", x.run(0, 6), -2);
    }

    /** IMAGES of none to two SPANS, gone back to from others. */
    private static void noneToThreeSpans() {
        CarriedWorks x = new CarriedWorks();
        Check.old(x, 0, "1:set h=a+2*c+3*e;");
        int[] fields = {4, 2, 0};
        for (int k = 0; k < 3; k++) {
            x.keep(k);
            c.due("INPUTS", x.span(0, fields[k], 1, 2), 2 << k);
        }
        for (int k : new int[] {2, 0, 1, 0, 2, 1}) {
            x.restore(k);
            c.due("ways", x.ways(0), 1);
            c.due("INPUTS", x.way(0, 0, 0), 1 << k);
            c.due("so many FIELDS with a SPAN", x.rule(0, 7, k), -2000000000);
            c.due("the last INPUT", x.run(0, (1 << k) - 1), 0);
            c.due("a", x.field(0), 0);
            c.due("c", x.field(2), k > 1 ? 2 : 0);
            c.due("e", x.field(4), k > 0 ? 2 : 0);
            c.due("no more", x.run(0, 1 << k), -2);
            c.due("a SPAN more", x.span(0, 6, 0, 2), 3 << k);
        }
    }

    /** All but the TAPE and SLOTS. */
    private static void tapeAndSlotsStay() {
        CarriedWorks x = new CarriedWorks();
        x.old(0);
        x.span(0, 0, 0, 9);
        x.renew(0);
        Check.tape(x, "1:stop;");
        Check.sheet(x, 0, 3, 4);
        x.keep(0);
        c.due("keeping leaves the TAPE", x.count(5), 7);
        Check.tape(x, "1:stop;2:stop;");
        Check.sheet(x, 0, 5, 6, 7);
        x.sheet(1, 0, 0);
        x.restore(0);
        c.due("the TAPE of now", x.count(5), 14);
        c.due("its text", x.old(1), 2);
        c.due("SLOTS of now", x.count(9), 2);
        c.due("the row of now", x.night(0, 0), 3);
        c.due("its first number", x.heap(0, 6), 5);
    }

    /** All but what was found: the FAULT, the latest run, WAYS and the plan. */
    private static void foundStays() {
        CarriedWorks x = new CarriedWorks();
        Check.old(x, 0, "3:set a=7;4:go 9;5:stop;");
        x.keep(0);
        c.due("no FAULT", x.fault(0), 0);
        Check.old(x, 1, "10000");
        x.run(0, 0);
        x.ways(0);
        x.plan(0x60);
        for (int round = 0; round < 2; round++) {
            c.due("FAULT", x.fault(0), 2);
            c.due("its place", x.fault(1), 0);
            c.due("field", x.field(0), 7);
            c.due("did", x.did(), 2);
            c.due("way", x.way(0, 4, 1), 4);
            c.due("rule", x.rule(0, 0, -1), 7);
            c.due("dead", x.dead(), 4);
            c.due("kinds", x.kinds(), 1);
            c.due("planned", x.planned(1), 6);
            x.restore(0);
        }
    }

    /** One thing after another is changed behind the IMAGE, and is as it has it behind restore(). */
    private static void everyPartComesBack() {
        CarriedWorks x = Everything.made();
        x.keep(1);
        x.calls(Everything.OLD, Everything.LIVE, 6);
        x.restore(1);
        c.due("calls", x.calls(Everything.OLD, Everything.LIVE, 5), 5);
        x.needs(Everything.OLD, Everything.BACK);
        x.restore(1);
        c.due("needs", x.needs(Everything.BACK, Everything.OLD), 0);
        x.restore(1);
        x.span(Everything.OLD, 1, 1, 0);
        x.restore(1);
        c.due("SPANS", x.span(Everything.OLD, 7, 1, 0), 6);
        Check.old(x, Everything.OLD, "1:stop;");
        x.restore(1);
        c.due("OLD text", x.count(0), 4 + 4 + 7 + 4);
        x.wish(Everything.BESIDE, 1, 7, 9);
        c.due("WISHES", x.count(7), 2);
        x.restore(1);
        c.due("the PUT", x.casing(Everything.BESIDE, 1, 3, 0, 0), 9);
        c.due("WISHES", x.count(7), 1);
        x.judge(2, 1);
        x.restore(1);
        c.due("HEAPS judged", x.heap(2, 5), 0);
        x.night(Everything.BESIDE, 0);
        x.restore(1);
        c.due("HEAPS", x.heap(2, 4), 2);
        c.due("NIGHTS", x.count(6), 6);
        x.live(Everything.BACK);
        x.restore(1);
        c.due("what it is", x.state(Everything.BACK), 3);
        x.form(9, 9);
        x.restore(1);
        c.due("the FORM: three times 50, less 1", x.lead(0), 149);
        x.put(2, 1, 1);
        x.restore(1);
        c.due("BEHIND", x.row(2, 3), 2);
        c.due("TRUE", x.row(2, 2), 0);
        c.due("LOST", x.row(1, 4), 1);
    }

    /** What the latest NIGHT told is as the IMAGE has it. */
    private static void nightsOfAnImage() {
        CarriedWorks x = new CarriedWorks();
        x.old(0);
        x.make(0);
        x.keep(0);
        x.sheet(0, 0, 0);
        x.night(0, 0);
        x.keep(1);
        x.wish(0, 0, 0, 1);
        Check.sheet(x, 1, 0);
        c.due("1", x.night(0, 1), 1);
        x.keep(2);
        x.restore(0);
        c.due("none", x.live(0), -5);
        c.due("NIGHTS", x.count(6), 0);
        x.restore(2);
        c.due("it told 1", x.live(0), -5);
        c.due("NIGHTS", x.count(6), 2);
        x.restore(1);
        c.due("NIGHTS", x.count(6), 1);
        c.due("it told 0", x.live(0), 0);
    }

    private static void heapsOfAnImage() {
        CarriedWorks x = new CarriedWorks();
        x.old(0);
        x.span(0, 0, 0, 1);
        x.renew(0);
        x.keep(0);
        Check.sheet(x, 0, 1, 0);
        x.night(0, 0);
        x.judge(0, 2);
        x.keep(1);
        x.restore(0);
        c.due("none", x.heaps(), 0);
        c.due("none", x.heap(0, 0), -1);
        c.due("none", x.judge(0, 1), -2);
        Check.sheet(x, 0, 0);
        c.due("a new HEAP, not judged", x.night(0, 0), 1);
        c.due("its first INPUT", x.heap(0, 6), 0);
        x.restore(1);
        c.due("one", x.heaps(), 1);
        c.due("judged", x.heap(0, 5), 2);
        c.due("its first INPUT", x.heap(0, 6), 1);
        c.due("two INPUTS", x.heap(0, 4), 2);
    }
}
