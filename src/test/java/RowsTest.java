/** Promises 35 to 39: form, put, lead, row, check. */
public final class RowsTest {
    private static final int NOTHING = -2000000000;
    private static final Check c = new Check("rows");

    public static void main(String[] args) {
        putsAndLeads();
        roundsDown();
        sides();
        forms();
        checks();
        wrong();
        c.close();
    }

    private static void rowIs(CarriedWorks x, int i, int... cells) {
        for (int what = 0; what < 5; what++) {
            c.due("ROW " + i + " what " + what, x.row(i, what), cells[what]);
        }
    }

    private static void putsAndLeads() {
        CarriedWorks x = new CarriedWorks();
        c.due("one", x.put(0, 0, 5), 1);
        c.due("two", x.put(0, 0, 6), 2);
        rowIs(x, 0, 6, 0, 0, 2, 0);
        c.due("FORM 1, 0", x.lead(0), 6);
        rowIs(x, 0, 6, 6, 0, 0, 0);
        c.due("anew", x.put(0, 0, -9999), 1);
        c.due("led over", x.lead(0), -9999);
        c.due("once more", x.lead(0), -9999);
        x.form(9, 99);
        c.due("one", x.put(19, 0, 9999), 1);
        c.due("m times and k", x.lead(19), 9 * 9999 + 99);
        c.due("the least", x.put(19, 0, -9999), 1);
        c.due("m times and k", x.lead(19), -9 * 9999 + 99);
    }

    private static void roundsDown() {
        CarriedWorks x = new CarriedWorks();
        x.form(3, 1);
        int[] values = {1, 2, 3, 4, 0, -1, -2, -3, 9999, -9999};
        int[] olds = {0, 0, 0, 1, -1, -1, -1, -2, 3332, -3334};
        int[] losts = {0, 1, 2, 0, 2, 1, 0, 2, 2, 2};
        int sum = 0;
        for (int i = 0; i < values.length; i++) {
            c.due("one", x.put(i, 1, values[i]), 1);
            c.due("less 1, by 3", x.lead(i), olds[i]);
            rowIs(x, i, olds[i], values[i], 1, 0, losts[i]);
            sum += losts[i];
        }
        c.due("the sum of LOST", x.count(10), sum);
        x.put(1, 0, 7);
        c.due("it stays until it is led over", x.row(1, 4), 1);
        x.lead(1);
        c.due("to NEW nothing is LOST", x.row(1, 4), 0);
        c.due("the sum of LOST", x.count(10), sum - 1);
    }

    private static void sides() {
        CarriedWorks x = new CarriedWorks();
        c.due("one", x.put(3, 0, 1), 1);
        c.due("two", x.put(3, 0, 2), 2);
        c.due("at the other side anew", x.put(3, 1, 3), 1);
        rowIs(x, 3, 2, 3, 1, 1, 0);
        c.due("two", x.put(3, 1, 4), 2);
        c.due("back again", x.put(3, 0, 5), 1);
        rowIs(x, 3, 5, 4, 0, 1, 0);
        c.due("at the other side", x.put(3, 1, 6), 1);
        c.due("to OLD", x.lead(3), 6);
        rowIs(x, 3, 6, 6, 1, 0, 0);
        c.due("where it is TRUE", x.put(3, 1, 7), 1);
        c.due("another row", x.put(4, 1, 1), 1);
        c.due("not by that", x.put(3, 1, 7), 2);
    }

    private static void forms() {
        CarriedWorks x = new CarriedWorks();
        x.put(0, 0, 10);
        x.put(1, 1, 10);
        c.due("form", x.form(4, -2), 0);
        rowIs(x, 0, 10, 38, 0, 0, 0);
        rowIs(x, 1, 3, 10, 1, 0, 0);
        rowIs(x, 2, 0, -2, 0, 0, 0);
        c.due("all agree", x.check(), -1);
        c.due("form", x.form(7, 0), 0);
        rowIs(x, 0, 10, 70, 0, 0, 0);
        rowIs(x, 1, 1, 10, 1, 0, 3);
        rowIs(x, 2, 0, 0, 0, 0, 0);
        c.due("one is LOST", x.check(), -3);
        for (int m : new int[] {0, -1, 10, Integer.MIN_VALUE, Integer.MAX_VALUE}) {
            c.due("no such m", x.form(m, 0), -2);
        }
        for (int k : new int[] {-100, 100, Integer.MIN_VALUE, Integer.MAX_VALUE}) {
            c.due("no such k", x.form(1, k), -2);
        }
        x.put(0, 0, 1);
        c.due("the FORM stayed", x.lead(0), 7);
        c.due("edges", x.form(1, -99), 0);
        c.due("edges", x.form(9, 99), 0);
    }

    private static void checks() {
        CarriedWorks x = new CarriedWorks();
        c.due("none, and all agree", x.check(), -1);
        x.put(0, 0, 0);
        x.put(1, 0, 1);
        x.put(1, 0, 2);
        c.due("two rows", x.check(), 2);
        x.lead(0);
        c.due("one", x.check(), 1);
        x.lead(1);
        c.due("none", x.check(), -1);
        x.form(2, 0);
        x.put(5, 1, 3);
        x.lead(5);
        c.due("3 is not twice 1", x.check(), -3);
        x.put(6, 0, 1);
        c.due("one is BEHIND", x.check(), 1);
        x.lead(6);
        c.due("none, but LOST", x.check(), -3);
        x.put(5, 1, 4);
        x.lead(5);
        c.due("all agree", x.check(), -1);
        for (int i = 0; i < 20; i++) {
            x.put(i, i % 2, i);
        }
        c.due("all are BEHIND", x.check(), 20);
    }

    private static void wrong() {
        CarriedWorks x = new CarriedWorks();
        for (int i : new int[] {-1, 20, Integer.MIN_VALUE, Integer.MAX_VALUE}) {
            c.due("no ROW", x.put(i, 0, 1), -2);
            c.due("no ROW", x.lead(i), NOTHING);
            c.due("no ROW", x.row(i, 0), NOTHING);
        }
        for (int side : new int[] {-1, 2, Integer.MIN_VALUE, Integer.MAX_VALUE}) {
            c.due("no side", x.put(0, side, 1), -2);
        }
        for (int v : new int[] {-10000, 10000, Integer.MIN_VALUE, Integer.MAX_VALUE}) {
            c.due("no such value", x.put(0, 0, v), -2);
        }
        for (int what : new int[] {-1, 5, Integer.MIN_VALUE, Integer.MAX_VALUE}) {
            c.due("no what", x.row(0, what), NOTHING);
        }
        c.due("nothing was put", x.check(), -1);
    }
}
