/** Promises 23 to 26: night, heaps, heap, judge. */
public final class NightTest {
    private static final Check c = new Check("nights");

    public static void main(String[] args) {
        heapsUp();
        wishesAreNotCounted();
        lastLineAndNone();
        ofAllWidths();
        sixty();
        wrongNights();
        refusedNightDoesNothing();
        fullRows();
        newHeapBehindAnImage();
        wrongHeaps();
        c.close();
    }

    private static void heapIs(CarriedWorks x, int h, int... cells) {
        for (int what = 0; what < 7; what++) {
            c.due("HEAP " + h + " what " + what, x.heap(h, what), cells[what]);
        }
    }

    private static void heapsUp() {
        CarriedWorks x = new CarriedWorks();
        Check.old(x, 3, "10:if a>2 go 40;20:set b=1;30:stop;40:set b=2;");
        x.span(3, 0, 0, 5);
        Check.renew(x, 3, "when a<2{b=1;}when a>3{b=3;c=1;}else{b=9;}");
        // 0, 1 alike; 2: b, LINE 30, CASE 2; 3: b, LINE 40, CASE 2; 4 and 5: b and c, LINE 40, CASE 1
        Check.sheet(x, 0, 5, 0, 3, 2, 4, 5, 1);
        c.due("night", x.night(3, 0), 5);
        c.due("HEAPS", x.heaps(), 3);
        heapIs(x, 0, 3, 40, 1, 6, 3, 0, 5);
        heapIs(x, 1, 3, 40, 2, 2, 1, 0, 3);
        heapIs(x, 2, 3, 30, 2, 2, 1, 0, 2);
        c.due("once more", x.night(3, 0), 5);
        c.due("no new ones", x.heaps(), 3);
        heapIs(x, 0, 3, 40, 1, 6, 6, 0, 5);
        c.due("NIGHTS", x.count(6), 2);
        c.due("not judged", x.count(8), 3);
    }

    private static void wishesAreNotCounted() {
        CarriedWorks x = new CarriedWorks();
        Check.old(x, 0, "1:stop;");
        x.span(0, 0, 0, 3);
        Check.renew(x, 0, "when a<2{b=1;}else{c=1;}");
        Check.sheet(x, 1, 0, 1, 2, 3);
        c.due("all", x.night(0, 1), 4);
        c.due("it was not judged", x.judge(0, 2), 0);
        c.due("a WISH", x.heap(0, 5), 2);
        c.due("that is not counted", x.night(0, 1), 2);
        c.due("but heaped", x.heap(0, 4), 4);
        c.due("a FAULT", x.judge(1, 1), 0);
        c.due("that is counted", x.night(0, 1), 2);
        c.due("it was a WISH", x.judge(0, 1), 2);
        c.due("it was a FAULT", x.judge(0, 1), 1);
        c.due("all are counted", x.night(0, 1), 4);
        c.due("none is left to judge", x.count(8), 0);
        x.judge(0, 2);
        x.judge(1, 2);
        Check.renew(x, 0, "when a<2{b=2;}else{c=2;}");
        c.due("HEAPS stay judged", x.night(0, 1), 0);
        heapIs(x, 0, 0, 1, 0, 2, 10, 2, 0);
    }

    private static void lastLineAndNone() {
        CarriedWorks x = new CarriedWorks();
        x.old(0);
        x.renew(0);
        Check.sheet(x, 0, 0);
        c.due("an empty text beside none", x.night(0, 0), 1);
        heapIs(x, 0, 0, -1, -1, 256, 1, 0, 0);
        Check.old(x, 1, "5:set a=1;6:go 8;");
        x.renew(1);
        c.due("night", x.night(1, 0), 1);
        heapIs(x, 1, 1, 6, -1, 257, 1, 0, 0);
        Check.old(x, 2, "5:set a=1;6:go 5;");
        x.renew(2);
        c.due("night", x.night(2, 0), 1);
        heapIs(x, 2, 2, 6, -1, 257, 1, 0, 0);
        Check.old(x, 4, "5:set a=1;6:set a=9999+a;");
        x.renew(4);
        c.due("night", x.night(4, 0), 1);
        heapIs(x, 3, 4, 6, -1, 257, 1, 0, 0);
        Check.old(x, 5, "5:set a=1;");
        Check.renew(x, 5, "when b=1{}else{a=9999+1;}");
        c.due("night", x.night(5, 0), 1);
        heapIs(x, 4, 5, 5, 1, 257, 1, 0, 0);
        c.due("of one PROGRAM, LINE, CASE alone are they one", x.heaps(), 5);
    }

    private static void ofAllWidths() {
        CarriedWorks x = new CarriedWorks();
        x.old(0);
        x.span(0, 0, -99, 99);
        x.span(0, 1, 0, 19);
        x.renew(0);
        for (int width = 0; width < 4; width++) {
            x.sheet(width, width, 2);
            x.write(width, 1, 127);
            c.due("night", x.night(0, width), 2);
        }
        x.write(0, 0, 128);
        c.due("one byte of 128 is -128", x.night(0, 0), -7);
        x.write(0, 0, 256);
        c.due("of 256 it is 0", x.night(0, 0), 2);
        x.write(1, 0, 3979);
        c.due("the last INPUT", x.night(0, 1), 2);
        x.write(1, 0, 3980);
        c.due("no INPUT", x.night(0, 1), -7);
        x.write(2, 0, 1L << 32);
        c.due("four bytes: 0", x.night(0, 2), 2);
        x.write(3, 0, 1L << 32);
        c.due("eight bytes: no INPUT", x.night(0, 3), -7);
        x.write(3, 0, -1);
        c.due("below 0", x.night(0, 3), -7);
    }

    private static void sixty() {
        CarriedWorks x = new CarriedWorks();
        // each INPUT is unlike in another set of FIELDS c .. h
        Check.old(x, 0, "1:if a<32 go 3;2:set c=1;3:if b<1 go 5;4:set d=1;5:stop;");
        x.span(0, 0, 0, 63);
        StringBuilder text = new StringBuilder("1:set b=a;");
        for (int bit = 5; bit >= 0; bit--) {
            int line = 40 - 5 * bit;
            text.append(line).append(":if b<").append(1 << bit).append(" go ").append(line + 5).append(";");
            text.append(line + 1).append(":set b=b-").append(1 << bit).append(";");
            text.append(line + 2).append(":set ").append((char) ('c' + bit)).append("=1;");
        }
        text.append("45:stop;");
        c.due("LINES", Check.old(x, 0, text.toString()), 20);
        Check.renew(x, 0, "else{b=0;}");
        int[] row = new int[60];
        for (int i = 0; i < 60; i++) {
            row[i] = i + 1;
        }
        Check.sheet(x, 0, row);
        c.due("all", x.night(0, 0), 60);
        c.due("60", x.heaps(), 60);
        Check.sheet(x, 0, 61, 62, 63, 60, 61);
        c.due("counted", x.night(0, 0), 5);
        c.due("not heaped", x.heaps(), 60);
        heapIs(x, 59, 0, 45, 0, 60 << 2, 2, 0, 60);
        for (int h = 0; h < 60; h++) {
            x.judge(h, 2);
        }
        c.due("four have no HEAP that is a WISH", x.night(0, 0), 4);
        c.due("none more", x.heap(60, 0), -1);
        c.due("no such HEAP", x.judge(60, 1), -2);
    }

    private static void wrongNights() {
        CarriedWorks x = new CarriedWorks();
        x.old(0);
        Check.sheet(x, 0, 0);
        c.due("it is OLD", x.night(0, 0), -2);
        x.renew(1);
        c.due("it has no OLD text", x.night(1, 0), -2);
        x.make(0);
        for (int wrong : new int[] {-1, 8, Integer.MIN_VALUE, Integer.MAX_VALUE}) {
            c.due("no PROGRAM", x.night(wrong, 0), -2);
            c.due("no SLOT", x.night(0, wrong), -2);
        }
        c.due("no SLOT", x.night(0, 4), -2);
        c.due("nothing there", x.night(0, 1), -6);
        x.sheet(1, 3, 0);
        c.due("a row without numbers", x.night(0, 1), 0);
        c.due("NIGHTS", x.count(6), 1);
        c.due("live", x.live(0), 0);
        c.due("it is LIVE", x.night(0, 0), -2);
        x.back(0);
        c.due("it is BACK", x.night(0, 0), -2);
    }

    private static void refusedNightDoesNothing() {
        CarriedWorks x = new CarriedWorks();
        x.old(0);
        x.span(0, 0, 0, 1);
        Check.renew(x, 0, "when a=0{}else{b=1;}");
        Check.sheet(x, 0, 1, 1, 2);
        c.due("2 is no INPUT", x.night(0, 0), -7);
        c.due("no HEAP", x.heaps(), 0);
        c.due("no NIGHT", x.count(6), 0);
        Check.sheet(x, 1, 0, 0);
        c.due("all alike", x.night(0, 1), 0);
        c.due("refused", x.night(0, 0), -7);
        c.due("the latest told 0 still", x.live(0), 0);
    }

    private static void fullRows() {
        CarriedWorks x = new CarriedWorks();
        x.old(0);
        x.renew(0);
        for (int slot = 0; slot < 4; slot++) {
            x.sheet(slot, 2, 60);
        }
        c.due("60", x.night(0, 3), 60);
        x.write(1, 0, 5);
        c.due("not of the next SLOT", x.night(0, 0), 60);
        c.due("of this one", x.night(0, 1), -7);
    }

    private static void newHeapBehindAnImage() {
        CarriedWorks x = new CarriedWorks();
        x.old(0);
        x.renew(0);
        Check.sheet(x, 0, 0);
        x.keep(0);
        x.night(0, 0);
        x.judge(0, 2);
        x.restore(0);
        c.due("none", x.heaps(), 0);
        c.due("a new one", x.night(0, 0), 1);
        heapIs(x, 0, 0, -1, -1, 256, 1, 0, 0);
    }

    private static void wrongHeaps() {
        CarriedWorks x = new CarriedWorks();
        c.due("none", x.heap(0, 0), -1);
        c.due("none", x.judge(0, 1), -2);
        x.old(0);
        x.renew(0);
        Check.sheet(x, 0, 0);
        x.night(0, 0);
        c.due("one", x.heaps(), 1);
        for (int wrong : new int[] {-1, 7, 60, Integer.MIN_VALUE, Integer.MAX_VALUE}) {
            c.due("no HEAP", x.heap(wrong, 0), -1);
            c.due("no HEAP", x.judge(wrong, 1), -2);
            c.due("no what", x.heap(0, wrong), -1);
            c.due("no word", x.judge(0, wrong), -2);
        }
        c.due("no HEAP", x.heap(1, 0), -1);
        c.due("0 is no word", x.judge(0, 0), -2);
        c.due("3 is no word", x.judge(0, 3), -2);
        c.due("not judged", x.heap(0, 5), 0);
    }
}
