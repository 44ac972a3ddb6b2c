/** Promises 43 to 45 at their bounds and just beyond; the rows are read back by night(). */
public final class EdgeSlotsTest {
    private static final Check c = new Check("edges of slots");

    public static void main(String[] args) {
        sheetEdges();
        refusedSheetLeaves();
        inPlaceOfAnother();
        writeEdges();
        refusedWriteLeaves();
        cutToItsWidth();
        pasteEdges();
        pasteNone();
        pasteBeyond();
        refusedPasteLeaves();
        orderOfRefusals();
        asTheyWere();
        fullRows();
        c.close();
    }

    /** A PROGRAM of 4096 INPUTS, at all of which but 0 they are UNLIKE. */
    private static CarriedWorks reader() {
        CarriedWorks x = new CarriedWorks();
        x.old(0);
        x.span(0, 0, 0, 63);
        x.span(0, 1, 0, 63);
        Check.renew(x, 0, "when a=0 and b=0{}else{h=1;}");
        return x;
    }

    /** Number i of a SLOT's row, if it is an INPUT, by the first INPUT of a HEAP; -7 if it is none. */
    private static int number(CarriedWorks x, int slot, int width, int i) {
        x.sheet(3, width, 1);
        c.due("paste", x.paste(slot, i, 3, 0, 1), 0);
        x.keep(2);
        int night = x.night(0, 3);
        int number = night == 1 ? x.heap(0, 6) : night;
        x.restore(2);
        return number;
    }

    private static void rowIs(CarriedWorks x, int slot, int width, int... want) {
        for (int i = 0; i < want.length; i++) {
            c.due("number " + i + " of SLOT " + slot, number(x, slot, width, i), want[i]);
        }
        c.due("no more in SLOT " + slot, x.write(slot, want.length, 0), -7);
    }

    /** Promise 43. */
    private static void sheetEdges() {
        CarriedWorks x = reader();
        for (int slot = 0; slot < 4; slot++) {
            for (int width = 0; width < 4; width++) {
                c.due("none", x.sheet(slot, width, 0), 0);
                c.due("no number", x.write(slot, 0, 1), -7);
                c.due("one", x.sheet(slot, width, 1), 0);
                c.due("number 0", x.write(slot, 0, 1), 0);
                c.due("no number 1", x.write(slot, 1, 1), -7);
                c.due("60", x.sheet(slot, width, 60), 0);
                c.due("number 59", x.write(slot, 59, 1), 0);
                c.due("no number 60", x.write(slot, 60, 1), -7);
                c.due("61", x.sheet(slot, width, 61), -2);
                c.due("-1", x.sheet(slot, width, -1), -3);
            }
        }
        c.due("SLOT 4", x.sheet(4, 0, 1), -2);
        c.due("SLOT -1", x.sheet(-1, 0, 1), -2);
        c.due("WIDTH 4", x.sheet(0, 4, 1), -2);
        c.due("WIDTH -1", x.sheet(0, -1, 1), -2);
        c.due("WIDTH 4 and below 0", x.sheet(0, 4, -1), -2);
        c.due("SLOT 4 and below 0", x.sheet(4, 0, -1), -2);
        c.due("far", x.sheet(0, 0, Integer.MAX_VALUE), -2);
        c.due("far", x.sheet(0, 0, Integer.MIN_VALUE), -3);
    }

    /** -3, and the SLOT stays; -2 leaves it, too. */
    private static void refusedSheetLeaves() {
        CarriedWorks x = reader();
        x.sheet(0, 1, 2);
        x.write(0, 1, 4000);
        for (int n : new int[] {-1, Integer.MIN_VALUE}) {
            c.due("below 0", x.sheet(0, 3, n), -3);
        }
        for (int n : new int[] {61, Integer.MAX_VALUE}) {
            c.due("above 60", x.sheet(0, 3, n), -2);
        }
        c.due("no WIDTH", x.sheet(0, 4, 1), -2);
        rowIs(x, 0, 1, 0, 4000);
        c.due("nothing comes of it", x.sheet(1, 0, -1), -3);
        c.due("nothing comes of it", x.sheet(2, 0, 61), -2);
        c.due("nothing", x.write(1, 0, 0), -6);
        c.due("nothing", x.write(2, 0, 0), -6);
        c.due("two SLOTS have rows", x.count(9), 2);
    }

    private static void inPlaceOfAnother() {
        CarriedWorks x = reader();
        x.sheet(0, 1, 3);
        for (int i = 0; i < 3; i++) {
            x.write(0, i, 7 + i);
        }
        c.due("the like, all 0", x.sheet(0, 1, 3), 0);
        rowIs(x, 0, 1, 0, 0, 0);
        x.write(0, 2, 5);
        c.due("shorter", x.sheet(0, 1, 2), 0);
        c.due("longer again", x.sheet(0, 1, 3), 0);
        rowIs(x, 0, 1, 0, 0, 0);
        c.due("another WIDTH", x.sheet(0, 2, 3), 0);
        rowIs(x, 0, 2, 0, 0, 0);
    }

    /** Promise 44. */
    private static void writeEdges() {
        CarriedWorks x = reader();
        for (int slot = 0; slot < 4; slot++) {
            c.due("nothing", x.write(slot, 0, 1), -6);
            c.due("nothing, at no place", x.write(slot, -1, 1), -6);
        }
        c.due("SLOT 4", x.write(4, 0, 1), -2);
        c.due("SLOT -1", x.write(-1, 0, 1), -2);
        x.sheet(1, 1, 2);
        c.due("first", x.write(1, 0, 11), 0);
        c.due("last", x.write(1, 1, 12), 0);
        rowIs(x, 1, 1, 11, 12);
        c.due("once more", x.write(1, 0, 13), 0);
        rowIs(x, 1, 1, 13, 12);
        c.due("SLOT 0 has nothing still", x.write(0, 0, 1), -6);
    }

    private static void refusedWriteLeaves() {
        CarriedWorks x = reader();
        x.sheet(0, 1, 60);
        x.sheet(1, 1, 2);
        x.sheet(2, 1, 60);
        for (int i : new int[] {-1, 2, 60, Integer.MIN_VALUE, Integer.MAX_VALUE}) {
            c.due("no number " + i, x.write(1, i, 9), -7);
        }
        c.due("no SLOT", x.write(4, 0, 9), -2);
        rowIs(x, 1, 1, 0, 0);
        c.due("SLOT 0 stays", x.night(0, 0), 0);
        c.due("SLOT 2 stays", x.night(0, 2), 0);
        c.due("no number", x.write(0, 60, 9), -7);
        c.due("no number", x.write(2, -1, 9), -7);
        rowIs(x, 1, 1, 0, 0);
    }

    /** 1, 2, 4 or 8 bytes: the lowest stay, the highest of these is the sign. */
    private static void cutToItsWidth() {
        long[] values = {0, 127, 128, 255, 256, 257, 32767, 32768, 65535, 65536, 65537, 1L << 31, (1L << 31) - 1, (1L << 32) - 1, 1L << 32,
            (1L << 32) + 1, -1, -128, -129, -256, -65536, -(1L << 32), Long.MAX_VALUE, Long.MIN_VALUE, Long.MIN_VALUE + 5};
        for (long v : values) {
            CarriedWorks x = reader();
            long[] cut = {(byte) v, (short) v, (int) v, v};
            for (int width = 0; width < 4; width++) {
                x.sheet(0, width, 1);
                c.due("write", x.write(0, 0, v), 0);
                long want = cut[width] >= 0 && cut[width] < 4096 ? cut[width] : -7;
                c.due(v + " of WIDTH " + width, number(x, 0, width, 0), want);
            }
        }
    }

    /** Promise 45. */
    private static void pasteEdges() {
        CarriedWorks x = reader();
        Check.sheet(x, 0, 1, 2, 3);
        Check.sheet(x, 1, 4, 5, 6, 7);
        c.due("all of it, to the end", x.paste(0, 0, 1, 1, 3), 0);
        rowIs(x, 1, 2, 4, 1, 2, 3);
        c.due("the last to the first", x.paste(0, 2, 1, 0, 1), 0);
        rowIs(x, 1, 2, 3, 1, 2, 3);
        c.due("the first to the last", x.paste(0, 0, 1, 3, 1), 0);
        rowIs(x, 1, 2, 3, 1, 2, 1);
        rowIs(x, 0, 2, 1, 2, 3);
        c.due("its own", x.paste(0, 0, 0, 2, 1), 0);
        rowIs(x, 0, 2, 1, 2, 1);
    }

    private static void pasteNone() {
        CarriedWorks x = reader();
        Check.sheet(x, 0, 1, 2, 3);
        Check.sheet(x, 1);
        c.due("none, at the beginning", x.paste(0, 0, 0, 0, 0), 0);
        c.due("none, just at the end", x.paste(0, 3, 0, 3, 0), 0);
        c.due("none to a row of none", x.paste(0, 3, 1, 0, 0), 0);
        c.due("none from a row of none", x.paste(1, 0, 0, 3, 0), 0);
        c.due("none from beyond", x.paste(0, 4, 0, 0, 0), -7);
        c.due("none to beyond", x.paste(0, 0, 0, 4, 0), -7);
        c.due("none to beyond a row of none", x.paste(0, 0, 1, 1, 0), -7);
        c.due("none from below", x.paste(0, -1, 0, 0, 0), -7);
        c.due("none to below", x.paste(0, 0, 0, -1, 0), -7);
        rowIs(x, 0, 2, 1, 2, 3);
    }

    /** -7: some are beyond their rows, or a place or n is below 0. */
    private static void pasteBeyond() {
        CarriedWorks x = reader();
        Check.sheet(x, 0, 1, 2, 3);
        Check.sheet(x, 1, 4, 5);
        int[][] good = {{0, 0, 2}, {1, 0, 2}, {2, 1, 1}, {2, 0, 1}, {0, 1, 1}, {3, 2, 0}};
        int[][] bad = {{0, 0, 3}, {2, 0, 2}, {1, 1, 2}, {3, 0, 1}, {0, 2, 1}, {3, 2, 1}, {-1, 0, 1}, {0, -1, 1}, {0, 0, -1}, {-1, -1, 2},
            {Integer.MAX_VALUE, 0, 1}, {0, Integer.MAX_VALUE, 1}, {0, 0, Integer.MAX_VALUE}, {1, 0, Integer.MAX_VALUE},
            {0, 1, Integer.MAX_VALUE}, {Integer.MAX_VALUE, Integer.MAX_VALUE, Integer.MAX_VALUE}, {Integer.MIN_VALUE, 0, 1},
            {0, Integer.MIN_VALUE, 1}, {0, 0, Integer.MIN_VALUE}, {Integer.MIN_VALUE, Integer.MIN_VALUE, Integer.MIN_VALUE},
            {Integer.MIN_VALUE, 0, Integer.MAX_VALUE}};
        for (int[] one : bad) {
            c.due("from " + one[0] + " to " + one[1] + ": " + one[2], x.paste(0, one[0], 1, one[1], one[2]), -7);
        }
        rowIs(x, 1, 2, 4, 5);
        rowIs(x, 0, 2, 1, 2, 3);
        for (int[] one : good) {
            c.due("from " + one[0] + " to " + one[1] + ": " + one[2], x.paste(0, one[0], 1, one[1], one[2]), 0);
        }
    }

    private static void refusedPasteLeaves() {
        CarriedWorks x = reader();
        Check.sheet(x, 0, 1, 2, 3);
        x.sheet(1, 1, 2);
        x.write(1, 0, 8);
        c.due("not of one WIDTH", x.paste(0, 0, 1, 0, 1), -8);
        c.due("not of one WIDTH", x.paste(1, 0, 0, 0, 1), -8);
        c.due("to nothing", x.paste(0, 0, 2, 0, 1), -6);
        c.due("from nothing", x.paste(2, 0, 0, 0, 1), -6);
        c.due("nothing still", x.write(2, 0, 0), -6);
        // two would fit, the third is beyond: none is put
        c.due("beyond", x.paste(0, 0, 0, 1, 3), -7);
        rowIs(x, 0, 2, 1, 2, 3);
        rowIs(x, 1, 1, 8, 0);
    }

    private static void orderOfRefusals() {
        CarriedWorks x = reader();
        Check.sheet(x, 0, 1);
        x.sheet(1, 3, 1);
        c.due("no SLOT ahead of nothing", x.paste(2, 0, 4, 0, 1), -2);
        c.due("no SLOT ahead of nothing", x.paste(4, 0, 2, 0, 1), -2);
        c.due("no SLOT ahead of beyond", x.paste(4, -1, 0, -1, -1), -2);
        c.due("nothing ahead of beyond", x.paste(0, -1, 2, -1, -1), -6);
        c.due("nothing ahead of beyond", x.paste(2, -1, 0, -1, -1), -6);
        c.due("WIDTH ahead of beyond", x.paste(0, -1, 1, 0, 1), -8);
        c.due("WIDTH, none at all", x.paste(0, 0, 1, 0, 0), -8);
        c.due("beyond", x.paste(0, -1, 0, 0, 1), -7);
    }

    /** As they were: where they lie one over the other, too. */
    private static void asTheyWere() {
        for (int from = 0; from < 4; from++) {
            for (int to = 0; to < 4; to++) {
                for (int n = 0; n <= 4 - Math.max(from, to); n++) {
                    CarriedWorks x = reader();
                    int[] row = {11, 12, 13, 14};
                    Check.sheet(x, 0, row);
                    c.due("paste", x.paste(0, from, 0, to, n), 0);
                    int[] want = row.clone();
                    for (int i = 0; i < n; i++) {
                        want[to + i] = row[from + i];
                    }
                    rowIs(x, 0, 2, want);
                }
            }
        }
    }

    /** Rows of 60 of each SLOT stand beside each other, and none runs into the next. */
    private static void fullRows() {
        CarriedWorks x = reader();
        x.keep(0);
        for (int slot = 0; slot < 4; slot++) {
            x.sheet(slot, 1, 60);
            for (int i = 0; i < 60; i++) {
                x.write(slot, i, 1 + slot);
            }
        }
        x.sheet(1, 1, 60);
        c.due("SLOT 0", x.night(0, 0), 60);
        c.due("SLOT 1", x.night(0, 1), 0);
        c.due("SLOT 2", x.night(0, 2), 60);
        c.due("all", x.paste(2, 0, 1, 0, 60), 0);
        c.due("SLOT 1", x.night(0, 1), 60);
        c.due("61", x.paste(2, 0, 1, 0, 61), -7);
        c.due("one beyond", x.paste(2, 1, 1, 0, 60), -7);
        c.due("one beyond", x.paste(2, 0, 1, 1, 60), -7);
        c.due("59", x.paste(0, 1, 1, 0, 59), 0);
        x.restore(0);
        c.due("the last stays", number(x, 1, 1, 59), 3);
        c.due("the 59th is SLOT 0's", number(x, 1, 1, 58), 1);
    }
}
