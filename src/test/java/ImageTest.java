/** Promises 40 to 42: count, keep, restore. */
public final class ImageTest {
    private static final Check c = new Check("images");

    public static void main(String[] args) {
        counts();
        comesBack();
        keepsNotTheRest();
        threeImages();
        apart();
        textsAndSpans();
        madeCases();
        wrong();
        c.close();
    }

    private static void counts() {
        CarriedWorks x = new CarriedWorks();
        Check.old(x, 0, "1:stop;2:stop;");
        Check.old(x, 7, "1:stop;");
        c.due("LINES of all", x.count(0), 3);
        Check.renew(x, 0, "when a=1{}else{}");
        x.make(7);
        c.due("CASES of all", x.count(1), 3);
        c.due("BESIDE", x.count(4), 2);
        x.sheet(1, 0, 0);
        x.sheet(3, 0, 4);
        c.due("SLOTS with a row", x.count(9), 2);
        x.sheet(3, 1, 2);
        x.sheet(2, 1, -1);
        c.due("SLOTS with a row", x.count(9), 2);
        x.night(0, 1);
        x.night(7, 1);
        x.night(7, 0);
        c.due("NIGHTS", x.count(6), 2);
        x.live(0);
        x.live(7);
        c.due("LIVE", x.count(2), 2);
        x.retire(7);
        c.due("LIVE", x.count(2), 1);
        c.due("RETIRED", x.count(3), 1);
        c.due("BESIDE", x.count(4), 0);
        x.feed(1, 2, 3, 4, 5);
        c.due("bytes", x.count(5), 20);
        x.end(0);
        x.old(1);
        x.renew(1);
        x.sheet(0, 0, 1);
        c.due("HEAPS not judged", x.count(8), 0);
        x.night(1, 0);
        c.due("HEAPS not judged", x.count(8), 1);
        x.judge(0, 1);
        c.due("HEAPS not judged", x.count(8), 0);
        c.due("WISHES", x.count(7), 0);
        c.due("LOST", x.count(10), 0);
        for (int what : new int[] {-1, 11, Integer.MIN_VALUE, Integer.MAX_VALUE}) {
            c.due("another what", x.count(what), -1);
        }
    }

    /** Some of all that an IMAGE keeps. */
    private static CarriedWorks full() {
        CarriedWorks x = new CarriedWorks();
        Check.old(x, 0, "1:set b=2*a;2:if b=4 go 9;");
        x.span(0, 0, 0, 2);
        Check.renew(x, 0, "when a<2{b=a;c=3;}else{b=4;}");
        x.wish(0, 0, 2, -3);
        Check.sheet(x, 0, 0, 1, 2);
        x.night(0, 0);
        x.judge(0, 2);
        CutOverTest.goLive(x, 1);
        x.calls(0, 1, 17);
        x.needs(2, 0);
        x.form(2, 1);
        x.put(4, 1, 6);
        x.lead(4);
        x.put(5, 0, 6);
        return x;
    }

    private static int[] told(CarriedWorks x) {
        int[] all = new int[40];
        int n = 0;
        for (int what = 0; what <= 10; what++) {
            if (what != 5 && what != 9) {
                all[n++] = x.count(what);
            }
        }
        all[n++] = x.state(0);
        all[n++] = x.state(1);
        all[n++] = x.unlike(0);
        all[n++] = x.parts(0, 2);
        all[n++] = x.where(0, 1);
        all[n++] = x.casing(0, 0, 3, 1, 0);
        all[n++] = x.heap(0, 5);
        all[n++] = x.heap(1, 6);
        all[n++] = x.heaps();
        all[n++] = x.plan(1);
        all[n++] = x.plan(4);
        all[n++] = x.row(4, 0);
        all[n++] = x.row(4, 4);
        all[n++] = x.row(5, 3);
        all[n++] = x.check();
        all[n++] = x.run(0, 2);
        all[n++] = x.run(0, 3);
        return all;
    }

    private static void same(String what, int[] got, int[] want) {
        for (int i = 0; i < want.length; i++) {
            c.due(what + " " + i, got[i], want[i]);
        }
    }

    private static void disturb(CarriedWorks x) {
        Check.renew(x, 0, "else{h=1;}");
        x.wish(0, 0, 7, 5);
        x.span(0, 1, 0, 1);
        Check.sheet(x, 0, 0, 5);
        x.night(0, 0);
        x.judge(0, 1);
        x.back(1);
        x.calls(0, 1, 3);
        x.needs(0, 7);
        x.put(4, 0, 1);
        x.put(5, 0, 1);
        x.form(3, 0);
        CutOverTest.goLive(x, 6);
        x.retire(6);
        Check.old(x, 2, "1:stop;");
    }

    private static void comesBack() {
        CarriedWorks x = full();
        int[] want = told(x);
        c.due("keep", x.keep(1), 0);
        same("keeping changes nothing", told(x), want);
        disturb(x);
        c.holds("another", !java.util.Arrays.equals(told(x), want));
        c.due("restore", x.restore(1), 0);
        same("as it was", told(x), want);
        disturb(x);
        c.due("restore once more", x.restore(1), 0);
        same("as it was", told(x), want);
        c.due("no OLD text", x.run(2, 0), -2);
        c.due("told", x.calls(0, 1, 17), 17);
        c.due("0 needs 7 no more", x.needs(7, 0), 0);
        c.due("2 needs 0 still", x.needs(0, 2), -5);
        x.lead(5);
        c.due("the FORM", x.row(5, 1), 13);
    }

    private static void keepsNotTheRest() {
        CarriedWorks x = new CarriedWorks();
        Check.old(x, 0, "1:set a=6;");
        x.keep(0);
        Check.old(x, 1, "1:go 5");
        x.run(0, 0);
        x.ways(0);
        x.plan(16);
        Check.tape(x, "1:stop;");
        Check.sheet(x, 2, 7);
        c.due("restore", x.restore(0), 0);
        c.due("the TAPE", x.count(5), 7);
        c.due("SLOTS", x.count(9), 1);
        c.due("SLOT 2", x.paste(2, 0, 2, 0, 1), 0);
        c.due("the FAULT", x.fault(0), 1);
        c.due("its place", x.fault(1), 6);
        c.due("field", x.field(0), 6);
        c.due("did", x.did(), 1);
        c.due("way", x.way(0, 4, 0), 1);
        c.due("rule", x.rule(0, 0, -1), 6);
        c.due("kinds", x.kinds(), 1);
        c.due("planned", x.planned(0), 4);
    }

    private static void threeImages() {
        CarriedWorks x = new CarriedWorks();
        for (int k = 0; k < 3; k++) {
            x.put(0, 0, 100 + k);
            c.due("keep", x.keep(k), 0);
        }
        for (int k = 2; k >= 0; k--) {
            c.due("restore", x.restore(k), 0);
            c.due("its ROW", x.row(0, 0), 100 + k);
            c.due("its writes", x.row(0, 3), k + 1);
        }
        x.put(0, 0, 55);
        x.keep(2);
        x.restore(1);
        x.restore(2);
        c.due("the latest", x.row(0, 0), 55);
    }

    private static void apart() {
        CarriedWorks x = new CarriedWorks();
        Check.old(x, 0, "1:set a=1;");
        Check.renew(x, 0, "else{a=1;}");
        x.keep(0);
        x.wish(0, 0, 0, 1);
        x.restore(0);
        c.due("as it was kept", x.casing(0, 0, 3, 0, 0), 1);
        x.wish(0, 0, 0, 2);
        x.restore(0);
        c.due("what is changed behind restore() is not kept", x.casing(0, 0, 3, 0, 0), 1);
        x.sheet(0, 0, 1);
        x.night(0, 0);
        x.keep(1);
        x.restore(0);
        c.due("no NIGHT then", x.live(0), -5);
        x.restore(1);
        c.due("one then", x.live(0), 0);
    }

    private static void textsAndSpans() {
        CarriedWorks x = new CarriedWorks();
        Check.old(x, 0, "11:if d<2 go 33;22:go 5;33:set b=3*d+1;44:if b>1 go 66;55:stop;66:set h=2;");
        x.span(0, 3, 0, 2);
        x.span(0, 6, 7, 8);
        x.keep(0);
        Check.old(x, 0, "1:set c=9;2:set g=a-f;3:set h=1;4:set c=3*c-g;5:if h=0 go 1;6:go 2;");
        x.span(0, 3, 1, 0);
        x.span(0, 0, 5, 6);
        x.span(0, 5, 1, 9);
        c.due("restore", x.restore(0), 0);
        c.due("ways", x.ways(0), 3);
        int[][] lines = {{11, 33, 44, 55}, {11, 33, 44, 66}, {11, 22}};
        for (int w = 0; w < 3; w++) {
            c.due("INPUTS", x.way(w, 0, 0), 2);
            c.due("LINES", x.way(w, 3, 0), lines[w].length);
            for (int i = 0; i < lines[w].length; i++) {
                c.due("LINE", x.way(w, 4, i), lines[w][i]);
            }
        }
        c.due("STOPS 3", x.way(2, 2, 0), 3);
        c.due("times d", x.rule(0, 1, 0), 3);
        c.due("run", x.run(0, 3), 0);
        c.due("d", x.field(3), 1);
        c.due("g", x.field(6), 8);
        c.due("b", x.field(1), 4);
        c.due("h", x.field(7), 2);
        c.due("a", x.field(0), 0);
    }

    private static void madeCases() {
        CarriedWorks x = new CarriedWorks();
        Check.old(x, 0, "1:if a<1 go 4;2:set a=a-1;3:go 1;4:if b<1 go 7;5:set b=b-1;6:go 4;7:stop;");
        x.span(0, 0, 0, 4);
        x.span(0, 1, 0, 7);
        x.keep(0);
        c.due("make", x.make(0), 40);
        x.keep(1);
        x.restore(0);
        c.due("none", x.count(1), 0);
        c.due("OLD", x.state(0), 0);
        c.due("no text", x.runNew(0, 0), -2);
        Check.renew(x, 0, "else{}");
        x.restore(1);
        c.due("40 again", x.count(1), 40);
        c.due("alike", x.unlike(0), 0);
        c.due("TESTS", x.casing(0, 39, 0, 0, 0), 13);
    }

    private static void wrong() {
        CarriedWorks x = new CarriedWorks();
        for (int k : new int[] {-1, 3, Integer.MIN_VALUE, Integer.MAX_VALUE}) {
            c.due("no such k", x.keep(k), -2);
            c.due("no such k", x.restore(k), -2);
        }
        x.keep(1);
        c.due("it has nothing", x.restore(0), -6);
        c.due("it has nothing", x.restore(2), -6);
        c.due("it has", x.restore(1), 0);
    }
}
