/** Promises 35 to 39 and the FORM (term VI) at their bounds and just beyond. */
public final class EdgeRowsTest {
    private static final int NOTHING = -2000000000;
    private static final Check c = new Check("edges of rows");

    public static void main(String[] args) {
        atFirst();
        formEdges();
        formLeadsAll();
        refusedFormLeaves();
        putEdges();
        refusedPutLeaves();
        behindCounts();
        anewAtTheOtherSide();
        leadEdges();
        roundedDown();
        lostStays();
        largestValues();
        rowEdges();
        checkEdges();
        lostButAgrees();
        c.close();
    }

    private static void rowIs(CarriedWorks x, int i, int... cells) {
        for (int what = 0; what < 5; what++) {
            c.due("ROW " + i + " what " + what, x.row(i, what), cells[what]);
        }
    }

    /** 0 at both sides, TRUE at OLD, none BEHIND; FORM 1, 0. */
    private static void atFirst() {
        CarriedWorks x = new CarriedWorks();
        for (int i = 0; i < 20; i++) {
            rowIs(x, i, 0, 0, 0, 0, 0);
        }
        c.due("all agree", x.check(), -1);
        x.put(0, 0, 7);
        c.due("once and 0", x.lead(0), 7);
        x.put(0, 1, 8);
        c.due("once and 0", x.lead(0), 8);
        c.due("nothing is LOST", x.count(10), 0);
    }

    /** Promise 35: m 1 .. 9, k -99 .. 99. */
    private static void formEdges() {
        CarriedWorks x = new CarriedWorks();
        x.put(0, 0, 1);
        for (int m = 1; m <= 9; m++) {
            for (int k : new int[] {-99, 0, 99}) {
                c.due("form " + m + " " + k, x.form(m, k), 0);
                c.due("led over", x.row(0, 1), m + k);
                c.due("all others, too", x.row(19, 1), k);
            }
        }
        for (int[] other : new int[][] {{0, 0}, {10, 0}, {-1, 0}, {1, 100}, {1, -100}, {0, 100}, {Integer.MIN_VALUE, 0},
            {Integer.MAX_VALUE, 0}, {1, Integer.MIN_VALUE}, {1, Integer.MAX_VALUE}}) {
            c.due("form " + other[0] + " " + other[1], x.form(other[0], other[1]), -2);
            c.due("as it was", x.row(0, 1), 108);
        }
    }

    /** All rows are led over by it anew from where they are TRUE. */
    private static void formLeadsAll() {
        CarriedWorks x = new CarriedWorks();
        for (int i = 0; i < 20; i++) {
            x.put(i, i % 2, i);
            x.put(i, i % 2, i);
        }
        c.due("20 are BEHIND", x.check(), 20);
        c.due("form", x.form(2, 1), 0);
        int lost = 0;
        for (int i = 0; i < 20; i++) {
            if (i % 2 == 0) {
                rowIs(x, i, i, 2 * i + 1, 0, 0, 0);
            } else {
                rowIs(x, i, (i - 1) / 2, i, 1, 0, 0);
            }
        }
        c.due("none is BEHIND, all agree", x.check(), -1);
        x.form(4, 0);
        for (int i = 1; i < 20; i += 2) {
            rowIs(x, i, i / 4, i, 1, 0, i % 4);
            lost += i % 4;
        }
        c.due("the sum of LOST", x.count(10), lost);
        c.due("some do not agree", x.check(), -3);
        x.form(1, 0);
        c.due("nothing is LOST", x.count(10), 0);
        c.due("all agree", x.check(), -1);
        c.due("from where it is TRUE", x.row(19, 0), 19);
    }

    private static void refusedFormLeaves() {
        CarriedWorks x = new CarriedWorks();
        x.form(3, 5);
        x.put(4, 0, 10);
        c.due("refused", x.form(10, 0), -2);
        c.due("refused", x.form(2, 100), -2);
        rowIs(x, 4, 10, 5, 0, 1, 0);
        c.due("one is BEHIND still", x.check(), 1);
        c.due("the FORM is as it was", x.lead(4), 35);
    }

    /** Promise 36: ROW 0 .. 19, side 0 or 1, v -9999 .. 9999. */
    private static void putEdges() {
        CarriedWorks x = new CarriedWorks();
        for (int i : new int[] {0, 19}) {
            for (int side = 0; side < 2; side++) {
                int count = 0;
                for (int v : new int[] {-9999, 0, 9999}) {
                    count++;
                    c.due("put", x.put(i, side, v), count);
                    c.due("it stands there", x.row(i, side), v);
                }
                c.due("TRUE there", x.row(i, 2), side);
            }
        }
        c.due("v 10000", x.put(0, 0, 10000), -2);
        c.due("v -10000", x.put(0, 0, -10000), -2);
        c.due("v 10000", x.put(0, 1, 10000), -2);
        c.due("side 2", x.put(0, 2, 0), -2);
        c.due("side -1", x.put(0, -1, 0), -2);
        c.due("ROW 20", x.put(20, 0, 0), -2);
        c.due("ROW -1", x.put(-1, 0, 0), -2);
        rowIs(x, 0, 9999, 9999, 1, 3, 0);
        rowIs(x, 19, 9999, 9999, 1, 3, 0);
        rowIs(x, 1, 0, 0, 0, 0, 0);
        rowIs(x, 18, 0, 0, 0, 0, 0);
    }

    private static void refusedPutLeaves() {
        CarriedWorks x = new CarriedWorks();
        x.put(5, 0, 4);
        c.due("refused", x.put(5, 1, 10000), -2);
        rowIs(x, 5, 4, 0, 0, 1, 0);
        c.due("refused", x.put(5, 0, -10000), -2);
        rowIs(x, 5, 4, 0, 0, 1, 0);
        c.due("the second write", x.put(5, 0, 4), 2);
        c.due("one ROW", x.check(), 1);
    }

    /** BEHIND: writes since it was led over last (0 then). */
    private static void behindCounts() {
        CarriedWorks x = new CarriedWorks();
        for (int n = 1; n <= 60; n++) {
            c.due("writes, the same value too", x.put(7, 0, 3), n);
        }
        c.due("BEHIND", x.row(7, 3), 60);
        c.due("one ROW is", x.check(), 1);
        x.lead(7);
        c.due("0 then", x.row(7, 3), 0);
        c.due("from 1 on", x.put(7, 0, 3), 1);
        x.lead(6);
        c.due("of that ROW alone", x.row(7, 3), 1);
        x.form(1, 0);
        c.due("0 by a FORM, too", x.row(7, 3), 0);
        c.due("from 1 on", x.put(7, 0, 3), 1);
    }

    /** put() at the side where it is not TRUE begins to count anew (1). */
    private static void anewAtTheOtherSide() {
        CarriedWorks x = new CarriedWorks();
        c.due("never led over", x.put(0, 1, 5), 1);
        rowIs(x, 0, 0, 5, 1, 1, 0);
        c.due("second", x.put(0, 1, 6), 2);
        c.due("anew", x.put(0, 0, 7), 1);
        rowIs(x, 0, 7, 6, 0, 1, 0);
        c.due("anew", x.put(0, 1, 8), 1);
        c.due("what stands at OLD goes", x.lead(0), 8);
        rowIs(x, 0, 8, 8, 1, 0, 0);
        c.due("led over, the other side", x.put(0, 0, 9), 1);
        c.due("to NEW", x.lead(0), 9);
        rowIs(x, 0, 9, 9, 0, 0, 0);
    }

    /** Promise 37. */
    private static void leadEdges() {
        CarriedWorks x = new CarriedWorks();
        x.form(2, 3);
        c.due("ROW 0", x.lead(0), 3);
        c.due("ROW 19", x.lead(19), 3);
        c.due("ROW 20", x.lead(20), NOTHING);
        c.due("ROW -1", x.lead(-1), NOTHING);
        c.due("far", x.lead(Integer.MIN_VALUE), NOTHING);
        c.due("far", x.lead(Integer.MAX_VALUE), NOTHING);
        x.put(19, 1, 8);
        c.due("to OLD: 5 by 2", x.lead(19), 2);
        c.due("once more", x.lead(19), 2);
        rowIs(x, 19, 2, 8, 1, 0, 1);
    }

    /** To OLD: less k, by m, rounded down; LOST is the rest, 0 .. m - 1. */
    private static void roundedDown() {
        for (int m = 1; m <= 9; m++) {
            for (int k : new int[] {-99, -1, 0, 1, 99}) {
                CarriedWorks x = new CarriedWorks();
                x.form(m, k);
                for (int v : new int[] {-9999, -100, -99, -10, -9, -2, -1, 0, 1, 2, 9, 10, 99, 100, 9999}) {
                    x.put(3, 1, v);
                    int old = x.lead(3);
                    int lost = x.row(3, 4);
                    c.holds("the rest is 0 .. m - 1", lost >= 0 && lost < m);
                    c.due("m times, k and the rest", m * old + k + lost, v);
                    c.due("the sum of LOST", x.count(10), lost);
                    c.due("agrees or not", x.check(), lost == 0 ? -1 : -3);
                }
            }
        }
        CarriedWorks x = new CarriedWorks();
        x.form(9, 0);
        int[] values = {8, 9, -1, -9, -10};
        int[] olds = {0, 1, -1, -1, -2};
        int[] losts = {8, 0, 8, 0, 8};
        for (int i = 0; i < values.length; i++) {
            x.put(0, 1, values[i]);
            c.due("by 9", x.lead(0), olds[i]);
            c.due("LOST", x.row(0, 4), losts[i]);
        }
    }

    /** LOST by its latest leading: it stays by put(), and goes by the next leading. */
    private static void lostStays() {
        CarriedWorks x = new CarriedWorks();
        x.form(5, 0);
        x.put(0, 1, 9);
        x.lead(0);
        c.due("4", x.row(0, 4), 4);
        x.put(0, 1, 10);
        c.due("4 still", x.row(0, 4), 4);
        c.due("the sum", x.count(10), 4);
        x.put(0, 0, 10);
        c.due("4 still", x.row(0, 4), 4);
        x.lead(0);
        c.due("to NEW: 0", x.row(0, 4), 0);
        c.due("the sum", x.count(10), 0);
        for (int i = 0; i < 20; i++) {
            x.put(i, 1, 9);
            x.lead(i);
        }
        c.due("20 times 4", x.count(10), 80);
    }

    private static void largestValues() {
        CarriedWorks x = new CarriedWorks();
        x.form(9, 99);
        x.put(0, 0, 9999);
        c.due("beyond 9999 at NEW", x.lead(0), 90090);
        c.due("agrees", x.check(), -1);
        x.form(9, -99);
        x.put(0, 0, -9999);
        c.due("beyond -9999 at NEW", x.lead(0), -90090);
        x.put(0, 1, -9999);
        c.due("to OLD: -9900 by 9", x.lead(0), -1100);
        x.form(1, -99);
        x.put(0, 1, 9999);
        c.due("beyond 9999 at OLD", x.lead(0), 10098);
        rowIs(x, 0, 10098, 9999, 1, 0, 0);
        x.form(9, 99);
        c.due("from where it is TRUE", x.row(0, 0), 1100);
    }

    /** Promise 38. */
    private static void rowEdges() {
        CarriedWorks x = new CarriedWorks();
        for (int what = 0; what < 5; what++) {
            c.due("ROW 0", x.row(0, what), 0);
            c.due("ROW 19", x.row(19, what), 0);
            c.due("ROW 20", x.row(20, what), NOTHING);
            c.due("ROW -1", x.row(-1, what), NOTHING);
        }
        c.due("what 5", x.row(0, 5), NOTHING);
        c.due("what -1", x.row(1, -1), NOTHING);
        for (int far : new int[] {Integer.MIN_VALUE, Integer.MAX_VALUE, 858993460}) {
            c.due("far", x.row(far, 0), NOTHING);
            c.due("far", x.row(0, far), NOTHING);
        }
    }

    /** Promise 39: rows BEHIND; NONE: none, and all agree; -3: none, but some does not agree. */
    private static void checkEdges() {
        CarriedWorks x = new CarriedWorks();
        for (int i = 0; i < 20; i++) {
            x.put(i, 0, 0);
            c.due("so many are BEHIND, whatever they are", x.check(), i + 1);
        }
        for (int i = 19; i >= 0; i--) {
            x.lead(i);
            c.due("so many are BEHIND", x.check(), i == 0 ? -1 : i);
        }
        x.form(2, 0);
        x.put(19, 1, 1);
        c.due("BEHIND", x.check(), 1);
        x.lead(19);
        c.due("the last ROW does not agree", x.check(), -3);
        x.put(0, 0, 0);
        c.due("one is BEHIND, and one does not agree", x.check(), 1);
        x.lead(0);
        c.due("does not agree", x.check(), -3);
        x.put(19, 1, 2);
        x.lead(19);
        c.due("all agree", x.check(), -1);
        x.put(0, 1, 3);
        x.lead(0);
        c.due("the first ROW does not agree", x.check(), -3);
    }

    /** A row written at both sides alike is BEHIND all the same, and agrees when it is led over. */
    private static void lostButAgrees() {
        CarriedWorks x = new CarriedWorks();
        x.put(0, 1, 6);
        x.put(0, 0, 6);
        c.due("BEHIND", x.check(), 1);
        x.lead(0);
        c.due("none", x.check(), -1);
        x.form(3, 0);
        x.put(0, 1, 7);
        x.lead(0);
        c.due("LOST", x.check(), -3);
        x.put(0, 0, 2);
        c.due("BEHIND", x.check(), 1);
        x.lead(0);
        c.due("all agree", x.check(), -1);
    }
}
