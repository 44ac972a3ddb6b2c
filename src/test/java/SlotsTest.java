/** Promises 43 to 45: sheet, write, paste; the rows are read back by night(). */
public final class SlotsTest {
    private static final int[] WRONG = {-1, 4, Integer.MIN_VALUE, Integer.MAX_VALUE};
    private static final Check c = new Check("slots");

    public static void main(String[] args) {
        sheets();
        writes();
        cuts();
        pastes();
        overlaps();
        wrongPastes();
        c.close();
    }

    /** A PROGRAM for which just INPUT 0 is alike, so that nights tell how many numbers are not 0. */
    private static CarriedWorks reader() {
        CarriedWorks x = new CarriedWorks();
        x.old(0);
        x.span(0, 0, 0, 99);
        x.span(0, 1, 0, 39);
        Check.renew(x, 0, "when a=0 and b=0{}else{h=1;}");
        return x;
    }

    /** The row's numbers by the first INPUT of HEAPS, one at a time through SLOT 3. */
    private static void rowIs(CarriedWorks x, int slot, int width, int... want) {
        for (int i = 0; i < want.length; i++) {
            x.sheet(3, width, 1);
            c.due("paste", x.paste(slot, i, 3, 0, 1), 0);
            x.keep(2);
            int unlike = x.night(0, 3);
            c.due("number " + i, unlike == 1 ? x.heap(0, 6) : 0, want[i]);
            x.restore(2);
        }
        c.due("no more", x.paste(slot, want.length, 3, 0, 1), -7);
    }

    private static void sheets() {
        CarriedWorks x = reader();
        c.due("60", x.sheet(0, 3, 60), 0);
        c.due("61", x.sheet(0, 3, 61), -2);
        c.due("far", x.sheet(0, 3, Integer.MAX_VALUE), -2);
        c.due("it stays", x.write(0, 59, 1), 0);
        c.due("below 0", x.sheet(0, 3, -1), -3);
        c.due("far below 0", x.sheet(0, 3, Integer.MIN_VALUE), -3);
        c.due("it stays", x.night(0, 0), 1);
        c.due("no row comes of it", x.sheet(1, 0, -1), -3);
        c.due("nothing", x.write(1, 0, 0), -6);
        for (int wrong : WRONG) {
            c.due("no SLOT", x.sheet(wrong, 0, 1), -2);
            c.due("no WIDTH", x.sheet(0, wrong, 1), -2);
            c.due("no SLOT, below 0", x.sheet(wrong, 0, -1), -2);
            c.due("no WIDTH, below 0", x.sheet(0, wrong, -1), -2);
        }
        x.write(0, 0, 1);
        c.due("in place of another one", x.sheet(0, 1, 60), 0);
        c.due("all 0", x.night(0, 0), 0);
        c.due("shorter", x.sheet(0, 1, 2), 0);
        c.due("two", x.write(0, 2, 0), -7);
        c.due("none", x.sheet(2, 0, 0), 0);
        c.due("has a row", x.write(2, 0, 0), -7);
        c.due("has a row", x.night(0, 2), 0);
        for (int width = 0; width < 4; width++) {
            c.due("each WIDTH", x.sheet(width, width, 1), 0);
        }
    }

    private static void writes() {
        CarriedWorks x = reader();
        c.due("nothing", x.write(0, 0, 5), -6);
        x.sheet(0, 1, 3);
        c.due("first", x.write(0, 0, 17), 0);
        c.due("last", x.write(0, 2, 3999), 0);
        c.due("once more", x.write(0, 0, 18), 0);
        for (int i : new int[] {-1, 3, Integer.MIN_VALUE, Integer.MAX_VALUE}) {
            c.due("no such number", x.write(0, i, 1), -7);
        }
        for (int wrong : WRONG) {
            c.due("no SLOT", x.write(wrong, 0, 1), -2);
        }
        rowIs(x, 0, 1, 18, 0, 3999);
    }

    private static void cuts() {
        CarriedWorks x = reader();
        long[] values = {0x7fff_ffff_ffff_ff05L, 0x1_0000_0007L, -256L, 0x1_0009L, Long.MIN_VALUE + 3};
        int[][] want = {{5, 7, 0, 9, 3}, {-1, 7, -1, 9, 3}, {-1, 7, -1, -1, 3}, {-1, -1, -1, -1, -1}};
        for (int width = 0; width < 4; width++) {
            for (int i = 0; i < values.length; i++) {
                x.sheet(0, width, 1);
                c.due("write", x.write(0, 0, values[i]), 0);
                if (want[width][i] < 0) {
                    c.due("no INPUT", x.night(0, 0), -7);
                } else {
                    rowIs(x, 0, width, want[width][i]);
                }
            }
        }
    }

    private static void pastes() {
        CarriedWorks x = reader();
        Check.sheet(x, 0, 1, 2, 3, 4);
        Check.sheet(x, 1, 9, 8);
        c.due("two", x.paste(0, 1, 1, 0, 2), 0);
        rowIs(x, 1, 2, 2, 3);
        rowIs(x, 0, 2, 1, 2, 3, 4);
        c.due("none", x.paste(0, 4, 1, 2, 0), 0);
        c.due("back", x.paste(1, 1, 0, 3, 1), 0);
        rowIs(x, 0, 2, 1, 2, 3, 3);
        rowIs(x, 1, 2, 2, 3);
    }

    private static void overlaps() {
        CarriedWorks x = reader();
        Check.sheet(x, 0, 1, 2, 3, 4, 5);
        c.due("upwards", x.paste(0, 0, 0, 1, 4), 0);
        rowIs(x, 0, 2, 1, 1, 2, 3, 4);
        c.due("downwards", x.paste(0, 2, 0, 0, 3), 0);
        rowIs(x, 0, 2, 2, 3, 4, 3, 4);
        c.due("onto itself", x.paste(0, 0, 0, 0, 5), 0);
        rowIs(x, 0, 2, 2, 3, 4, 3, 4);
    }

    private static void wrongPastes() {
        CarriedWorks x = reader();
        Check.sheet(x, 0, 1, 2, 3);
        x.sheet(1, 1, 3);
        for (int wrong : WRONG) {
            c.due("no SLOT", x.paste(wrong, 0, 0, 0, 1), -2);
            c.due("no SLOT", x.paste(0, 0, wrong, 0, 1), -2);
            c.due("no SLOT, and one has nothing", x.paste(wrong, 0, 2, 0, 1), -2);
        }
        c.due("the other has nothing", x.paste(0, 0, 2, 0, 1), -6);
        c.due("it has nothing", x.paste(2, 0, 0, 0, 1), -6);
        c.due("both have nothing", x.paste(2, -1, 2, 0, 1), -6);
        c.due("another WIDTH", x.paste(0, 0, 1, 0, 1), -8);
        c.due("another WIDTH, beyond it", x.paste(0, -1, 1, 9, 99), -8);
        x.sheet(1, 2, 2);
        c.due("beyond its row", x.paste(0, 1, 1, 0, 3), -7);
        c.due("beyond the other's", x.paste(0, 0, 1, 0, 3), -7);
        c.due("beyond the other's", x.paste(0, 0, 1, 1, 2), -7);
        c.due("below 0", x.paste(0, -1, 1, 0, 1), -7);
        c.due("below 0", x.paste(0, 0, 1, -1, 1), -7);
        c.due("below 0", x.paste(0, 0, 1, 0, -1), -7);
        c.due("none from beyond", x.paste(0, 4, 1, 0, 0), -7);
        c.due("none to beyond", x.paste(0, 0, 1, 3, 0), -7);
        for (int far : new int[] {Integer.MIN_VALUE, Integer.MAX_VALUE}) {
            c.due("far", x.paste(0, far, 1, 0, 1), -7);
            c.due("far", x.paste(0, 0, 1, far, 1), -7);
            c.due("far", x.paste(0, 0, 1, 0, far), -7);
            c.due("far", x.paste(0, far, 1, far, far), -7);
        }
        rowIs(x, 1, 2, 0, 0);
        rowIs(x, 0, 2, 1, 2, 3);
    }
}
