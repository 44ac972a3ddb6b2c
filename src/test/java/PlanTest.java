/** Promises 33 and 34: plan, planned. */
public final class PlanTest {
    private static final Check c = new Check("plan");

    public static void main(String[] args) {
        prices();
        needsComeFirst();
        firstOfSeveral();
        othersCount();
        overOnes();
        missingNeeds();
        wrong();
        all();
        c.close();
    }

    private static void orderIs(CarriedWorks x, int... order) {
        for (int i = 0; i < order.length; i++) {
            c.due("planned " + i, x.planned(i), order[i]);
        }
        c.due("no more", x.planned(order.length), -1);
        c.due("below", x.planned(-1), -1);
    }

    private static void prices() {
        CarriedWorks x = new CarriedWorks();
        x.calls(0, 1, 10);
        x.calls(1, 2, 1);
        // 0 1 2: 10 + 1 + 0; 2 1 0: 1 + 10; 1 first: 11 + 1 or 11 + 10
        c.due("plan", x.plan(7), 11);
        orderIs(x, 0, 1, 2);
        x.calls(0, 3, 5);
        // 3 stays: 0 last is best: 2 1 0: 1 + 10 + 5
        c.due("plan", x.plan(7), 16);
        orderIs(x, 2, 1, 0);
        x.calls(2, 0, 100);
        // 0 1 2: 115 + 106 + 5; 0 2 1: 115 + 16 + 5; 1 0 2: 11 + 106 + 5; 1 2 0: 11 + 110 + 5; 2 0 1: 101 + 16 + 5
        c.due("plan", x.plan(7), 122);
        orderIs(x, 1, 0, 2);
    }

    private static void needsComeFirst() {
        CarriedWorks x = new CarriedWorks();
        x.needs(0, 7);
        x.needs(7, 3);
        c.due("no price", x.plan(1 | 8 | 128), 0);
        orderIs(x, 3, 7, 0);
        x.calls(3, 5, 4);
        c.due("3 is first: three nights", x.plan(1 | 8 | 128), 12);
        orderIs(x, 3, 7, 0);
        c.due("with 5", x.plan(1 | 8 | 32 | 128), 4);
        orderIs(x, 3, 5, 7, 0);
    }

    private static void firstOfSeveral() {
        CarriedWorks x = new CarriedWorks();
        c.due("no price", x.plan(255), 0);
        orderIs(x, 0, 1, 2, 3, 4, 5, 6, 7);
        x.calls(1, 0, 3);
        c.due("either", x.plan(3), 3);
        orderIs(x, 0, 1);
        c.due("0 and 1 one behind the other", x.plan(255), 3);
        orderIs(x, 0, 1, 2, 3, 4, 5, 6, 7);
        x.calls(0, 7, 1);
        c.due("1 and then 0 and 7", x.plan(255), 3 + 1);
        orderIs(x, 1, 0, 7, 2, 3, 4, 5, 6);
    }

    private static void othersCount() {
        CarriedWorks x = new CarriedWorks();
        x.calls(5, 6, 9);
        c.due("neither side goes", x.plan(1), 0);
        CutOverTest.goLive(x, 5);
        c.due("one side is LIVE all the nights", x.plan(3), 18);
        orderIs(x, 0, 1);
        c.due("6 first", x.plan(1 | 64), 0);
        orderIs(x, 6, 0);
    }

    private static void overOnes() {
        CarriedWorks x = new CarriedWorks();
        CutOverTest.goLive(x, 0);
        CutOverTest.goLive(x, 1);
        x.retire(1);
        CutOverTest.goLive(x, 2);
        x.back(2);
        x.renew(3);
        x.calls(2, 0, 2);
        x.calls(3, 1, 3);
        c.due("LIVE and RETIRED ones are left out", x.plan(15), 2);
        orderIs(x, 3, 2);
        c.due("none is left", x.plan(3), 0);
        orderIs(x);
        c.due("none at all", x.plan(0), 0);
        orderIs(x);
    }

    private static void missingNeeds() {
        CarriedWorks x = new CarriedWorks();
        x.plan(4);
        x.needs(0, 1);
        x.needs(1, 2);
        c.due("1 is not in it", x.plan(1), -1);
        c.due("2 is not in it", x.plan(3), -1);
        orderIs(x, 2);
        CutOverTest.goLive(x, 2);
        c.due("2 is LIVE", x.plan(3), 0);
        orderIs(x, 1, 0);
        x.retire(2);
        c.due("2 is RETIRED", x.plan(3), 0);
        c.due("1 is OLD", x.plan(1), -1);
        c.due("not those that need it", x.plan(2), 0);
        orderIs(x, 1);
    }

    private static void wrong() {
        CarriedWorks x = new CarriedWorks();
        x.plan(2);
        for (int bits : new int[] {-1, 256, Integer.MIN_VALUE, Integer.MAX_VALUE}) {
            c.due("no such bits", x.plan(bits), -2);
        }
        orderIs(x, 1);
        for (int i : new int[] {-1, 1, 8, Integer.MIN_VALUE, Integer.MAX_VALUE}) {
            c.due("no such one", x.planned(i), -1);
        }
        x.keep(0);
        x.plan(6);
        x.restore(0);
        orderIs(x, 1, 2);
    }

    private static void all() {
        CarriedWorks x = new CarriedWorks();
        for (int p = 0; p < 8; p++) {
            for (int q = 0; q < 8; q++) {
                if (p != q) {
                    x.calls(p, q, 999);
                }
            }
        }
        int price = 0;
        for (int night = 1; night <= 8; night++) {
            price += 2 * night * (8 - night) * 999;
        }
        c.due("all of all", x.plan(255), price);
        orderIs(x, 0, 1, 2, 3, 4, 5, 6, 7);
    }
}
