/** Promises 23 to 26 and HEAPS (term IV) at their bounds and just beyond. */
public final class EdgeNightsTest {
    private static final Check c = new Check("edges of nights");

    public static void main(String[] args) {
        firstAndLastInput();
        noInputAtAnyPlace();
        numbersOfAWidth();
        rowsOfNoneAndOfSixty();
        noNumberOfTheNextSlot();
        slotsAndPrograms();
        orderOfRefusals();
        aHeapOfItsOwn();
        lineOfTheEnd();
        heapedAgain();
        sixtyHeaps();
        beyondSixty();
        judgedWords();
        staysJudged();
        wishesOfANight();
        heapEdges();
        c.close();
    }

    private static void heapIs(CarriedWorks x, int h, int... cells) {
        for (int what = 0; what < 7; what++) {
            c.due("HEAP " + h + " what " + what, x.heap(h, what), cells[what]);
        }
    }

    /** A PROGRAM with so many INPUTS at all of which they are UNLIKE. */
    private static CarriedWorks unlikeAtAll(int a, int b) {
        CarriedWorks x = new CarriedWorks();
        x.old(0);
        x.span(0, 0, 0, a - 1);
        x.span(0, 1, 0, b - 1);
        x.renew(0);
        return x;
    }

    private static void firstAndLastInput() {
        CarriedWorks x = unlikeAtAll(64, 64);
        Check.sheet(x, 0, 0);
        c.due("the first", x.night(0, 0), 1);
        Check.sheet(x, 0, 4095);
        c.due("the last", x.night(0, 0), 1);
        Check.sheet(x, 0, 4096);
        c.due("no INPUT", x.night(0, 0), -7);
        Check.sheet(x, 0, -1);
        c.due("no INPUT", x.night(0, 0), -7);
        c.due("two NIGHTS", x.count(6), 2);
        heapIs(x, 0, 0, -1, -1, 256, 2, 0, 0);
    }

    /** -7: a number is no INPUT (nothing is done). */
    private static void noInputAtAnyPlace() {
        for (int at = 0; at < 5; at++) {
            CarriedWorks x = new CarriedWorks();
            x.old(0);
            x.span(0, 0, 0, 1);
            Check.renew(x, 0, "when a=0{}else{b=1;}");
            Check.sheet(x, 0, 0);
            c.due("0", x.night(0, 0), 0);
            Check.sheet(x, 1, 1, 1, 1, 1, 1);
            x.write(1, at, 2);
            c.due("2 is no INPUT", x.night(0, 1), -7);
            c.due("no HEAP", x.heaps(), 0);
            c.due("no NIGHT more", x.count(6), 1);
            c.due("none to judge", x.count(8), 0);
            c.due("the latest NIGHT told 0", x.live(0), 0);
        }
    }

    /** Numbers have a sign in their WIDTH. */
    private static void numbersOfAWidth() {
        CarriedWorks x = unlikeAtAll(64, 64);
        long[][] inputs = {{0, 127, 256, 256 + 127, -256}, {0, 4095, 65536, 65536 + 4095, -65536},
            {0, 4095, 1L << 32, (1L << 32) + 4095, -(1L << 32)}, {0, 4095}};
        long[][] others = {{128, 255, -1, 256 + 128, -128}, {4096, 32767, 32768, 65535, -1}, {4096, 1L << 31, (1L << 32) - 1, -1},
            {4096, 65536, 1L << 32, 1L << 63, -1, Long.MAX_VALUE}};
        for (int width = 0; width < 4; width++) {
            x.sheet(0, width, 1);
            for (long number : inputs[width]) {
                x.write(0, 0, number);
                c.due("WIDTH " + width + ": " + number, x.night(0, 0), 1);
            }
            for (long number : others[width]) {
                x.write(0, 0, number);
                c.due("WIDTH " + width + ": " + number, x.night(0, 0), -7);
            }
        }
    }

    private static void rowsOfNoneAndOfSixty() {
        CarriedWorks x = unlikeAtAll(64, 1);
        x.sheet(0, 3, 0);
        c.due("of none", x.night(0, 0), 0);
        c.due("a NIGHT", x.count(6), 1);
        c.due("no HEAP", x.heaps(), 0);
        x.sheet(1, 0, 60);
        c.due("of 60", x.night(0, 1), 60);
        c.due("60 INPUTS heaped", x.heap(0, 4), 60);
        x.write(1, 59, 64);
        c.due("the last is no INPUT", x.night(0, 1), -7);
        x.write(1, 59, 63);
        c.due("the last", x.night(0, 1), 60);
        c.due("120 INPUTS heaped", x.heap(0, 4), 120);
        c.due("all three NIGHTS", x.count(6), 3);
    }

    /** Full rows: the numbers of one SLOT alone are the NIGHT's. */
    private static void noNumberOfTheNextSlot() {
        CarriedWorks x = unlikeAtAll(2, 1);
        for (int slot = 0; slot < 4; slot++) {
            x.sheet(slot, 2, 60);
        }
        x.write(1, 0, 2);
        x.write(1, 59, 2);
        c.due("SLOT 0", x.night(0, 0), 60);
        c.due("SLOT 1", x.night(0, 1), -7);
        c.due("SLOT 2", x.night(0, 2), 60);
        c.due("SLOT 3", x.night(0, 3), 60);
        x.sheet(1, 2, 59);
        x.write(1, 58, 1);
        c.due("59 of SLOT 1", x.night(0, 1), 59);
    }

    private static void slotsAndPrograms() {
        CarriedWorks x = new CarriedWorks();
        x.old(7);
        x.make(7);
        Check.sheet(x, 3, 0);
        c.due("SLOT 3", x.night(7, 3), 0);
        c.due("SLOT 4", x.night(7, 4), -2);
        c.due("SLOT -1", x.night(7, -1), -2);
        c.due("it has nothing", x.night(7, 0), -6);
        c.due("PROGRAM 8", x.night(8, 3), -2);
        c.due("PROGRAM -1", x.night(-1, 3), -2);
        c.due("it is OLD", x.night(0, 3), -2);
        x.renew(0);
        c.due("it has no OLD text", x.night(0, 3), -2);
        x.live(7);
        c.due("it is LIVE", x.night(7, 3), -2);
        x.back(7);
        c.due("it is BACK", x.night(7, 3), -2);
        x.live(7);
        x.retire(7);
        c.due("it is RETIRED", x.night(7, 3), -2);
        c.due("one NIGHT", x.count(6), 1);
    }

    private static void orderOfRefusals() {
        CarriedWorks x = new CarriedWorks();
        x.old(0);
        c.due("it is OLD, and the SLOT has nothing", x.night(0, 0), -2);
        Check.sheet(x, 1, 9);
        c.due("it is OLD, and 9 is no INPUT", x.night(0, 1), -2);
        x.renew(1);
        c.due("no OLD text, and the SLOT has nothing", x.night(1, 0), -2);
        x.make(0);
        c.due("nothing", x.night(0, 0), -6);
        c.due("no INPUT", x.night(0, 1), -7);
    }

    /** Another PROGRAM, LINE, CASE or other FIELDS: another HEAP. */
    private static void aHeapOfItsOwn() {
        CarriedWorks x = new CarriedWorks();
        for (int p = 0; p < 2; p++) {
            Check.old(x, p, "5:if a>1 go 7;6:stop;7:stop;");
            x.span(p, 0, 0, 3);
            x.span(p, 1, 0, 1);
            Check.renew(x, p, "when a=0 and b=0{h=1;}when a=0{g=1;}when a=1{h=1;}else{h=1;}");
        }
        // 0 0: LINE 6, CASE 0, h; 0 1: LINE 6, CASE 1, g; 1 b: LINE 6, CASE 2, h; 2 b, 3 b: LINE 7, CASE 3, h
        Check.sheet(x, 0, 7, 6, 5, 4, 3, 2, 1, 0);
        c.due("all", x.night(0, 0), 8);
        c.due("4 HEAPS", x.heaps(), 4);
        heapIs(x, 0, 0, 7, 3, 128, 4, 0, 7);
        heapIs(x, 1, 0, 6, 2, 128, 2, 0, 3);
        heapIs(x, 2, 0, 6, 1, 64, 1, 0, 1);
        heapIs(x, 3, 0, 6, 0, 128, 1, 0, 0);
        c.due("all", x.night(1, 0), 8);
        c.due("4 of the other PROGRAM", x.heaps(), 8);
        heapIs(x, 4, 1, 7, 3, 128, 4, 0, 7);
        heapIs(x, 0, 0, 7, 3, 128, 4, 0, 7);
        Check.renew(x, 0, "when a=0 and b=0{h=1;}when a=0{g=1;}when a=1{h=1;}when a=2{h=1;}else{h=1;g=1;}");
        Check.sheet(x, 0, 4, 6);
        c.due("two", x.night(0, 0), 2);
        c.due("one HEAP more: by CASE 4 and other FIELDS", x.heaps(), 9);
        heapIs(x, 0, 0, 7, 3, 128, 5, 0, 7);
        heapIs(x, 8, 0, 7, 4, 192, 1, 0, 6);
    }

    /** The LINE at which OLD came to its end: the last one done, by its number. */
    private static void lineOfTheEnd() {
        String[] texts = {"", "3:stop;4:stop;", "3:set b=1;", "3:set b=1;4:set b=9999+b;5:stop;", "3:set b=1;4:go 9;5:stop;",
            "3:set b=b+1;4:go 3;", "3:set b=b+1;4:set b=b+1;5:go 3;", "999:stop;"};
        int[] lines = {-1, 3, 3, 4, 4, 4, 3, 999};
        for (int i = 0; i < texts.length; i++) {
            CarriedWorks x = new CarriedWorks();
            Check.old(x, 0, texts[i]);
            x.renew(0);
            Check.sheet(x, 0, 0);
            c.due("one", x.night(0, 0), 1);
            c.due("LINE of " + texts[i], x.heap(0, 1), lines[i]);
            c.due("no CASE", x.heap(0, 2), -1);
        }
        CarriedWorks x = new CarriedWorks();
        x.old(0);
        Check.renew(x, 0, "when a=1{}else{a=9999+1;}");
        Check.sheet(x, 0, 0);
        x.night(0, 0);
        heapIs(x, 0, 0, -1, 1, 256, 1, 0, 0);
    }

    private static void heapedAgain() {
        CarriedWorks x = unlikeAtAll(3, 1);
        Check.sheet(x, 0, 2, 2, 1);
        c.due("each number counts", x.night(0, 0), 3);
        heapIs(x, 0, 0, -1, -1, 256, 3, 0, 2);
        Check.sheet(x, 0, 0);
        c.due("one more", x.night(0, 0), 1);
        heapIs(x, 0, 0, -1, -1, 256, 4, 0, 2);
    }

    /** Each INPUT of a (0 .. 63) is UNLIKE in another set of FIELDS: 0 is alike. */
    private static CarriedWorks sixtyFour() {
        StringBuilder text = new StringBuilder("1:set b=a;");
        for (int bit = 5; bit >= 0; bit--) {
            int line = 40 - 5 * bit;
            text.append(line).append(":if b<").append(1 << bit).append(" go ").append(line + 5).append(";");
            text.append(line + 1).append(":set b=b-").append(1 << bit).append(";");
            text.append(line + 2).append(":set ").append((char) ('c' + bit)).append("=1;");
        }
        CarriedWorks x = new CarriedWorks();
        c.due("LINES", Check.old(x, 0, text + "45:stop;"), 20);
        x.span(0, 0, 0, 63);
        Check.renew(x, 0, "else{b=0;}");
        return x;
    }

    private static int[] from(int first, int n) {
        int[] row = new int[n];
        for (int i = 0; i < n; i++) {
            row[i] = first + i;
        }
        return row;
    }

    private static void sixtyHeaps() {
        CarriedWorks x = sixtyFour();
        Check.sheet(x, 0, from(0, 60));
        c.due("all but 0", x.night(0, 0), 59);
        c.due("59", x.heaps(), 59);
        Check.sheet(x, 0, 60);
        c.due("one more", x.night(0, 0), 1);
        c.due("60", x.heaps(), 60);
        heapIs(x, 59, 0, 45, 0, 60 << 2, 1, 0, 60);
        Check.sheet(x, 0, 61);
        c.due("counted", x.night(0, 0), 1);
        c.due("not heaped", x.heaps(), 60);
        c.due("60 are not judged", x.count(8), 60);
        c.due("no 61st", x.heap(60, 0), -1);
        c.due("none to judge", x.judge(60, 2), -2);
        c.due("the last may be judged", x.judge(59, 2), 0);
        Check.sheet(x, 0, 60);
        c.due("it is a WISH", x.night(0, 0), 0);
    }

    /** Beyond 60 they are counted, not heaped; those that have a HEAP are heaped still. */
    private static void beyondSixty() {
        CarriedWorks x = sixtyFour();
        Check.sheet(x, 0, from(4, 60));
        c.due("60", x.night(0, 0), 60);
        for (int h = 0; h < 60; h++) {
            x.judge(h, 2);
        }
        Check.sheet(x, 0, 1, 2, 3, 4, 0, 63, 3);
        c.due("1, 2, 3 and 3", x.night(0, 0), 4);
        c.due("60 still", x.heaps(), 60);
        heapIs(x, 0, 0, 45, 0, 4 << 2, 2, 2, 4);
        heapIs(x, 59, 0, 45, 0, 63 << 2, 2, 2, 63);
        c.due("-5: others than 0", x.live(0), -5);
        Check.sheet(x, 0, 4, 0, 63);
        c.due("WISHES alone", x.night(0, 0), 0);
        c.due("live", x.live(0), 0);
        // another PROGRAM's NIGHT finds no room, either
        CarriedWorks y = sixtyFour();
        Check.sheet(y, 0, from(1, 60));
        y.night(0, 0);
        y.old(1);
        y.renew(1);
        Check.sheet(y, 1, 0);
        c.due("of another PROGRAM, too", y.night(1, 1), 1);
        c.due("60 still", y.heaps(), 60);
        c.due("it can't become LIVE by judging", y.live(1), -5);
    }

    /** Promise 26: 1 a FAULT, 2 a WISH. */
    private static void judgedWords() {
        CarriedWorks x = unlikeAtAll(1, 1);
        Check.sheet(x, 0, 0);
        c.due("none yet", x.judge(0, 1), -2);
        x.night(0, 0);
        for (int word : new int[] {0, 3, -1, Integer.MIN_VALUE, Integer.MAX_VALUE}) {
            c.due("another word", x.judge(0, word), -2);
            c.due("not judged", x.heap(0, 5), 0);
        }
        c.due("it was not", x.judge(0, 1), 0);
        c.due("a FAULT", x.heap(0, 5), 1);
        c.due("it was a FAULT", x.judge(0, 2), 1);
        c.due("a WISH", x.heap(0, 5), 2);
        c.due("another word", x.judge(0, 3), -2);
        c.due("a WISH still", x.heap(0, 5), 2);
        c.due("it was a WISH", x.judge(0, 2), 2);
        c.due("HEAP 1", x.judge(1, 1), -2);
        c.due("HEAP -1", x.judge(-1, 1), -2);
    }

    /** A HEAP stays judged, by other texts, SPANS and NIGHTS. */
    private static void staysJudged() {
        CarriedWorks x = new CarriedWorks();
        x.old(0);
        x.span(0, 0, 0, 1);
        Check.renew(x, 0, "else{h=1;}");
        Check.sheet(x, 0, 0, 1);
        c.due("both", x.night(0, 0), 2);
        x.judge(0, 2);
        Check.renew(x, 0, "else{h=2;}");
        c.due("a WISH still", x.heap(0, 5), 2);
        c.due("none", x.night(0, 0), 0);
        x.span(0, 0, 4, 5);
        c.due("none", x.night(0, 0), 0);
        heapIs(x, 0, 0, -1, 0, 128, 6, 2, 0);
        x.make(0);
        c.due("alike", x.night(0, 0), 0);
        heapIs(x, 0, 0, -1, 0, 128, 6, 2, 0);
        x.wish(0, 0, 7, 1);
        c.due("by a WISH told: none", x.night(0, 0), 0);
        heapIs(x, 0, 0, -1, 0, 128, 8, 2, 0);
    }

    /** How many were UNLIKE and not a WISH; a FAULT and one not judged are counted. */
    private static void wishesOfANight() {
        CarriedWorks x = new CarriedWorks();
        x.old(0);
        x.span(0, 0, 0, 3);
        Check.renew(x, 0, "when a=0{}when a=1{b=1;}when a=2{c=1;}else{d=1;}");
        Check.sheet(x, 0, 0, 1, 2, 3, 3);
        c.due("all but 0", x.night(0, 0), 4);
        x.judge(0, 1);
        x.judge(1, 2);
        c.due("not 2", x.night(0, 0), 3);
        x.judge(2, 2);
        c.due("not 3 and 3", x.night(0, 0), 1);
        x.judge(0, 2);
        c.due("none", x.night(0, 0), 0);
        x.judge(2, 1);
        c.due("3 and 3 again", x.night(0, 0), 2);
        c.due("5 NIGHTS", x.count(6), 5);
        c.due("10 heaped", x.heap(2, 4), 10);
    }

    /** Promises 24 and 25. */
    private static void heapEdges() {
        CarriedWorks x = new CarriedWorks();
        c.due("none", x.heaps(), 0);
        c.due("none", x.heap(0, 0), -1);
        x.old(7);
        x.renew(7);
        Check.sheet(x, 0, 0);
        x.night(7, 0);
        c.due("one", x.heaps(), 1);
        heapIs(x, 0, 7, -1, -1, 256, 1, 0, 0);
        c.due("what 7", x.heap(0, 7), -1);
        c.due("what -1", x.heap(0, -1), -1);
        c.due("HEAP 1", x.heap(1, 0), -1);
        c.due("HEAP -1", x.heap(-1, 6), -1);
        for (int far : new int[] {Integer.MIN_VALUE, Integer.MAX_VALUE, 613566757}) {
            c.due("far", x.heap(far, 0), -1);
            c.due("far", x.heap(0, far), -1);
        }
    }
}
