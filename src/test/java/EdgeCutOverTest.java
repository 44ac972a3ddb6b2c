/** Promises 27 to 34 and the PLAN (term V) at their bounds and just beyond. */
public final class EdgeCutOverTest {
    private static final Check c = new Check("edges of cutting over");

    public static void main(String[] args) {
        prices();
        callsNoMore();
        needsItself();
        needsByOthers();
        needsAllButItself();
        liveStates();
        nightsSince();
        nightsThatToldOthers();
        backWithCases();
        needsThatAreOver();
        liveRefusals();
        backWithAll();
        backByOthersInBetween();
        backAndRetired();
        retireAndCallers();
        stateEdges();
        planBits();
        planNeeds();
        planLeavesTheLatest();
        planPrices();
        planFirstByPrograms();
        planMost();
        planOfAllOrders();
        plannedEdges();
        c.close();
    }

    private static int goLive(CarriedWorks x, int p) {
        return CutOverTest.goLive(x, p);
    }

    /** Promise 27: 0 .. 999, NONE. */
    private static void prices() {
        CarriedWorks x = new CarriedWorks();
        c.due("0", x.calls(0, 7, 0), -1);
        c.due("999", x.calls(0, 7, 999), 0);
        c.due("1000", x.calls(0, 7, 1000), -2);
        c.due("-2", x.calls(0, 7, -2), -2);
        c.due("far", x.calls(0, 7, Integer.MAX_VALUE), -2);
        c.due("far", x.calls(0, 7, Integer.MIN_VALUE), -2);
        c.due("999 stays", x.calls(0, 7, 1), 999);
        c.due("the other way round none was told", x.calls(7, 0, 2), -1);
        c.due("PROGRAM 8", x.calls(8, 0, 1), -2);
        c.due("PROGRAM 8", x.calls(0, 8, 1), -2);
        c.due("PROGRAM -1", x.calls(-1, 0, 1), -2);
        c.due("PROGRAM -1", x.calls(0, -1, 1), -2);
        for (int p = 0; p < 8; p++) {
            c.due("they are one", x.calls(p, p, 1), -2);
        }
        c.due("1 stays", x.calls(0, 7, 1), 1);
        c.due("2 stays", x.calls(7, 0, 2), 2);
    }

    private static void callsNoMore() {
        CarriedWorks x = new CarriedWorks();
        c.due("none was told, and none is", x.calls(1, 2, -1), -1);
        c.due("0", x.calls(1, 2, 0), -1);
        c.due("no more: 0 was told", x.calls(1, 2, -1), 0);
        c.due("none is told now", x.calls(1, 2, 999), -1);
        c.due("plan", x.plan(2), 999);
        c.due("no more", x.calls(1, 2, -1), 999);
        c.due("no price", x.plan(2), 0);
    }

    /** Promise 28: -5: it would need itself. */
    private static void needsItself() {
        CarriedWorks x = new CarriedWorks();
        for (int p = 0; p < 8; p++) {
            c.due("itself", x.needs(p, p), -5);
        }
        c.due("PROGRAM 8", x.needs(8, 0), -2);
        c.due("PROGRAM 8", x.needs(0, 8), -2);
        c.due("PROGRAM -1", x.needs(-1, 0), -2);
        c.due("PROGRAM -1", x.needs(0, -1), -2);
        c.due("none such, and one", x.needs(8, 8), -2);
        c.due("none needs any", x.plan(255), 0);
        for (int p = 0; p < 8; p++) {
            c.due("each alone", x.plan(1 << p), 0);
        }
    }

    /** Also by others in between: over two, three .. eight. */
    private static void needsByOthers() {
        for (int length = 2; length <= 8; length++) {
            for (int turn = 0; turn < 8; turn++) {
                CarriedWorks x = new CarriedWorks();
                for (int i = 0; i + 1 < length; i++) {
                    c.due("needs the next", x.needs((3 * i + turn) % 8, (3 * i + 3 + turn) % 8), 0);
                }
                int last = (3 * (length - 1) + turn) % 8;
                c.due("the last would need the first", x.needs(last, turn), -5);
                c.due("the first may need the last", x.needs(turn, last), 0);
                c.due("nothing happened: the last needs none", x.plan(1 << last), 0);
            }
        }
    }

    private static void needsAllButItself() {
        CarriedWorks x = new CarriedWorks();
        for (int p = 0; p < 8; p++) {
            for (int q = p + 1; q < 8; q++) {
                c.due("all above it", x.needs(p, q), 0);
            }
        }
        for (int p = 0; p < 8; p++) {
            for (int q = 0; q < 8; q++) {
                c.due("none below it, nor itself", x.needs(p, q), q > p ? 0 : -5);
            }
        }
        c.due("each behind all it needs", x.plan(255), 0);
        orderIs(x, 7, 6, 5, 4, 3, 2, 1, 0);
    }

    private static void liveStates() {
        CarriedWorks x = new CarriedWorks();
        c.due("PROGRAM -1", x.live(-1), -2);
        c.due("PROGRAM 8", x.live(8), -2);
        c.due("OLD", x.live(7), -2);
        x.old(7);
        c.due("OLD with a text", x.live(7), -2);
        x.make(7);
        c.due("BESIDE, no NIGHT", x.live(7), -5);
        x.sheet(0, 0, 0);
        x.night(7, 0);
        c.due("BESIDE", x.live(7), 0);
        c.due("LIVE", x.live(7), -2);
        x.back(7);
        c.due("BACK", x.live(7), 0);
        x.retire(7);
        c.due("RETIRED", x.live(7), -2);
    }

    /** Promise 29: -5: there was none since its text, CASES, SPANS or WISHES were told. */
    private static void nightsSince() {
        CarriedWorks x = new CarriedWorks();
        x.old(0);
        x.span(0, 0, 0, 1);
        x.make(0);
        x.sheet(0, 0, 0);
        x.night(0, 0);
        c.due("the same CASES once more", x.make(0), 1);
        c.due("none since", x.live(0), -5);
        x.night(0, 0);
        c.due("the same SPAN once more", x.span(0, 0, 0, 1), 2);
        c.due("none since", x.live(0), -5);
        x.night(0, 0);
        c.due("no SPAN for one that had none", x.span(0, 5, 1, 0), 2);
        c.due("none since", x.live(0), -5);
        x.night(0, 0);
        c.due("a WISH for nothing", x.wish(0, 0, 0, 0), 1);
        c.due("none since", x.live(0), -5);
        x.night(0, 0);
        c.due("the text", Check.renew(x, 0, "else{}"), 1);
        c.due("none since", x.live(0), -5);
        x.night(0, 0);
        // what is refused tells nothing
        c.due("refused", x.span(0, 0, 0, 100), -2);
        c.due("refused", x.span(0, 8, 0, 1), -2);
        c.due("refused", x.wish(0, 0, 0, 1), -2);
        c.due("refused", Check.renew(x, 0, "else{a=10000;}"), -4);
        c.due("refused", x.old(0), -2);
        c.due("refused", x.night(0, 1), -6);
        c.due("refused", x.night(0, 4), -2);
        // nor do those of another one
        Check.old(x, 1, "1:stop;");
        x.span(1, 0, 0, 1);
        x.make(1);
        x.wish(1, 0, 0, 1);
        Check.sheet(x, 1, 0);
        c.due("another one's NIGHT", x.night(1, 1), 1);
        c.due("live", x.live(0), 0);
        c.due("that one is not", x.live(1), -5);
    }

    private static void nightsThatToldOthers() {
        CarriedWorks x = new CarriedWorks();
        x.old(0);
        x.renew(0);
        Check.sheet(x, 0, 0);
        x.sheet(1, 0, 0);
        c.due("1", x.night(0, 0), 1);
        c.due("its latest told 1", x.live(0), -5);
        c.due("BESIDE still", x.state(0), 1);
        c.due("0", x.night(0, 1), 0);
        c.due("1", x.night(0, 0), 1);
        c.due("its latest told 1", x.live(0), -5);
        x.judge(0, 2);
        c.due("it told 1 then", x.live(0), -5);
        c.due("0", x.night(0, 0), 0);
        x.judge(0, 1);
        c.due("it told 0 then", x.live(0), 0);
    }

    /** BACK, with CASES. */
    private static void backWithCases() {
        CarriedWorks x = new CarriedWorks();
        x.sheet(0, 0, 0);
        x.old(0);
        x.renew(0);
        x.night(0, 0);
        c.due("BESIDE without CASES", x.live(0), 0);
        c.due("back", x.back(0), 1);
        c.due("BACK without CASES", x.live(0), -2);
        c.due("BACK still", x.state(0), 3);
        x.old(1);
        Check.renew(x, 1, "else{}");
        x.night(1, 0);
        x.live(1);
        x.back(1);
        c.due("BACK with one CASE", x.live(1), 0);
        c.due("LIVE", x.state(1), 2);
    }

    /** Promise 29: -6: it needs one that is neither LIVE nor RETIRED. */
    private static void needsThatAreOver() {
        CarriedWorks x = new CarriedWorks();
        x.needs(7, 0);
        x.needs(7, 1);
        c.due("both are OLD", goLive(x, 7), -6);
        goLive(x, 0);
        c.due("one is OLD", x.live(7), -6);
        x.old(1);
        x.make(1);
        c.due("one is BESIDE", x.live(7), -6);
        x.night(1, 3);
        x.live(1);
        x.back(1);
        c.due("one is BACK", x.live(7), -6);
        x.live(1);
        c.due("both are LIVE", x.live(7), 0);
        x.back(7);
        x.retire(1);
        c.due("LIVE and RETIRED", x.live(7), 0);
        x.back(7);
        c.due("back", x.back(0), 1);
        c.due("one is BACK: also for one that is BACK", x.live(7), -6);
        c.due("BACK still", x.state(7), 3);
        // those that it needs by others do not count where the one between is over
        CarriedWorks y = new CarriedWorks();
        goLive(y, 1);
        y.needs(1, 2);
        y.needs(0, 1);
        c.due("2 is OLD, but 1 is LIVE", goLive(y, 0), 0);
    }

    private static void liveRefusals() {
        CarriedWorks x = new CarriedWorks();
        x.needs(0, 1);
        c.due("-2 ahead of -5 and -6", x.live(0), -2);
        x.old(0);
        x.make(0);
        c.due("-5 ahead of -6", x.live(0), -5);
        x.sheet(0, 0, 0);
        x.night(0, 0);
        c.due("-6", x.live(0), -6);
        c.due("BESIDE still", x.state(0), 1);
        goLive(x, 1);
        c.due("live", x.live(0), 0);
    }

    /** Promise 30: with all LIVE ones that need it (also by others): how many went. */
    private static void backWithAll() {
        CarriedWorks x = new CarriedWorks();
        for (int p = 0; p < 7; p++) {
            x.needs(p, p + 1);
        }
        for (int p = 7; p >= 0; p--) {
            c.due("live", goLive(x, p), 0);
        }
        c.due("the first alone", x.back(0), 1);
        c.due("LIVE again", x.live(0), 0);
        c.due("all eight", x.back(7), 8);
        c.due("none is LIVE", x.count(2), 0);
        for (int p = 0; p < 8; p++) {
            c.due("BACK", x.state(p), 3);
            c.due("not LIVE", x.back(p), -2);
        }
        x.live(7);
        c.due("7 alone: the others are BACK", x.back(7), 1);
        c.due("PROGRAM -1", x.back(-1), -2);
        c.due("PROGRAM 8", x.back(8), -2);
    }

    /** One that needs it by another goes, too, where that other one needs it only since, and is not LIVE. */
    private static void backByOthersInBetween() {
        CarriedWorks x = new CarriedWorks();
        goLive(x, 0);
        goLive(x, 2);
        x.needs(0, 1);
        x.needs(1, 2);
        c.due("0 needs 2 by 1, which is OLD", x.back(2), 2);
        c.due("BACK", x.state(0), 3);
        c.due("OLD", x.state(1), 0);
        c.due("BACK", x.state(2), 3);
    }

    /** Promise 30: -5: one that needs it (also by others) is RETIRED. */
    private static void backAndRetired() {
        CarriedWorks x = new CarriedWorks();
        x.needs(0, 1);
        x.needs(1, 2);
        x.needs(3, 2);
        for (int p : new int[] {2, 1, 0, 3}) {
            goLive(x, p);
        }
        x.retire(0);
        c.due("by 1", x.back(2), -5);
        c.due("it needs it", x.back(1), -5);
        for (int p = 1; p <= 3; p++) {
            c.due("LIVE still", x.state(p), 2);
        }
        c.due("none needs 3", x.back(3), 1);
        c.due("RETIRED itself: -2", x.back(0), -2);
        c.due("by 1 still", x.back(2), -5);
    }

    /** Promise 31: -5: a PROGRAM that calls it is neither LIVE nor RETIRED. */
    private static void retireAndCallers() {
        CarriedWorks x = new CarriedWorks();
        c.due("PROGRAM -1", x.retire(-1), -2);
        c.due("PROGRAM 8", x.retire(8), -2);
        c.due("OLD", x.retire(0), -2);
        goLive(x, 0);
        x.calls(7, 0, 0);
        c.due("7 is OLD, its price 0", x.retire(0), -5);
        x.old(7);
        x.make(7);
        c.due("7 is BESIDE", x.retire(0), -5);
        x.night(7, 3);
        x.live(7);
        x.back(7);
        c.due("7 is BACK", x.retire(0), -5);
        c.due("LIVE still", x.state(0), 2);
        x.live(7);
        c.due("7 is LIVE", x.retire(0), 0);
        c.due("RETIRED", x.state(0), 4);
        c.due("RETIRED", x.retire(0), -2);
        x.calls(0, 7, 5);
        c.due("0 is RETIRED", x.retire(7), 0);
        goLive(x, 1);
        x.calls(1, 2, 5);
        c.due("it may call one that is OLD", x.retire(1), 0);
        goLive(x, 3);
        x.calls(2, 3, 5);
        c.due("2 is OLD", x.retire(3), -5);
        x.calls(2, 3, -1);
        c.due("it calls it no more", x.retire(3), 0);
        goLive(x, 4);
        x.needs(5, 4);
        c.due("one that needs it does not matter", x.retire(4), 0);
    }

    private static void stateEdges() {
        CarriedWorks x = new CarriedWorks();
        c.due("PROGRAM 0", x.state(0), 0);
        c.due("PROGRAM 7", x.state(7), 0);
        c.due("PROGRAM 8", x.state(8), -2);
        c.due("PROGRAM -1", x.state(-1), -2);
        c.due("far", x.state(Integer.MIN_VALUE), -2);
        c.due("far", x.state(Integer.MAX_VALUE), -2);
    }

    private static void orderIs(CarriedWorks x, int... order) {
        for (int i = 0; i < order.length; i++) {
            c.due("planned " + i, x.planned(i), order[i]);
        }
        c.due("no more", x.planned(order.length), -1);
    }

    /** Promise 33: bits 0 .. 255. */
    private static void planBits() {
        CarriedWorks x = new CarriedWorks();
        c.due("0", x.plan(0), 0);
        orderIs(x);
        c.due("255", x.plan(255), 0);
        orderIs(x, 0, 1, 2, 3, 4, 5, 6, 7);
        c.due("256", x.plan(256), -2);
        c.due("-1", x.plan(-1), -2);
        c.due("far", x.plan(Integer.MIN_VALUE), -2);
        c.due("far", x.plan(Integer.MAX_VALUE), -2);
        orderIs(x, 0, 1, 2, 3, 4, 5, 6, 7);
        c.due("128", x.plan(128), 0);
        orderIs(x, 7);
        goLive(x, 7);
        c.due("it is LIVE", x.plan(128), 0);
        orderIs(x);
        x.retire(7);
        c.due("it is RETIRED", x.plan(129), 0);
        orderIs(x, 0);
    }

    /** Promise 33: NONE: some need others that are neither in it, LIVE nor RETIRED. */
    private static void planNeeds() {
        CarriedWorks x = new CarriedWorks();
        x.needs(0, 1);
        x.needs(1, 2);
        int[] due = {0, -1, -1, -1, 0, -1, 0, 0};
        for (int bits = 0; bits < 8; bits++) {
            c.due("of 0, 1, 2: " + bits, x.plan(bits), due[bits]);
        }
        orderIs(x, 2, 1, 0);
        x.old(1);
        x.make(1);
        c.due("1 is BESIDE", x.plan(1), -1);
        goLive(x, 2);
        x.night(1, 3);
        x.live(1);
        c.due("1 is LIVE", x.plan(1), 0);
        x.back(1);
        c.due("1 is BACK", x.plan(1), -1);
        c.due("with it", x.plan(3), 0);
        orderIs(x, 1, 0);
        x.live(1);
        x.retire(1);
        c.due("1 is RETIRED", x.plan(1), 0);
        // what LIVE ones need does not matter
        x.needs(2, 5);
        c.due("2 is LIVE and needs 5, which is OLD", x.plan(5), 0);
        orderIs(x, 0);
    }

    private static void planLeavesTheLatest() {
        CarriedWorks x = new CarriedWorks();
        c.due("none yet", x.planned(0), -1);
        x.needs(0, 1);
        c.due("refused", x.plan(1), -1);
        c.due("none yet", x.planned(0), -1);
        c.due("plan", x.plan(7), 0);
        c.due("refused", x.plan(1), -1);
        c.due("refused", x.plan(256), -2);
        c.due("refused", x.plan(-1), -2);
        orderIs(x, 1, 0, 2);
        goLive(x, 1);
        x.needs(2, 0);
        orderIs(x, 1, 0, 2);
    }

    /** Just one side LIVE or RETIRED, of all PROGRAMS, behind that night's. */
    private static void planPrices() {
        CarriedWorks x = new CarriedWorks();
        x.calls(0, 1, 999);
        c.due("one side: a night", x.plan(1), 999);
        c.due("the other side: a night", x.plan(2), 999);
        c.due("both: one night between", x.plan(3), 999);
        orderIs(x, 0, 1);
        x.calls(1, 0, 1);
        c.due("both ways", x.plan(3), 1000);
        x.calls(5, 6, 10);
        c.due("not of others that are OLD", x.plan(3), 1000);
        goLive(x, 5);
        c.due("one side is LIVE: each night", x.plan(3), 1020);
        x.retire(5);
        c.due("one side is RETIRED: each night", x.plan(3), 1020);
        goLive(x, 6);
        c.due("both are", x.plan(3), 1000);
        c.due("no night, no price", x.plan(0), 0);
        x.back(6);
        c.due("one is BACK", x.plan(3), 1020);
        c.due("6 first ends it", x.plan(64), 0);
    }

    /** Of several with the least sum the first by PROGRAMS. */
    private static void planFirstByPrograms() {
        CarriedWorks x = new CarriedWorks();
        x.calls(6, 7, 5);
        c.due("6 and 7 at any time, but together", x.plan(255), 5);
        orderIs(x, 0, 1, 2, 3, 4, 5, 6, 7);
        x.needs(6, 7);
        c.due("7 ahead of 6", x.plan(255), 5);
        orderIs(x, 0, 1, 2, 3, 4, 5, 7, 6);
        x.needs(0, 6);
        c.due("6 ahead of 0", x.plan(255), 5);
        orderIs(x, 1, 2, 3, 4, 5, 7, 6, 0);
        // a cheaper one goes ahead of the first
        CarriedWorks y = new CarriedWorks();
        y.calls(0, 7, 1);
        c.due("0 as late as can be", y.plan(15), 1);
        orderIs(y, 1, 2, 3, 0);
        c.due("with 7: one night between", y.plan(129), 1);
        orderIs(y, 0, 7);
    }

    private static void planMost() {
        CarriedWorks x = new CarriedWorks();
        for (int p = 0; p < 8; p++) {
            for (int q = 0; q < 8; q++) {
                if (p != q) {
                    x.calls(p, q, 999);
                }
            }
        }
        int price = 0;
        for (int night = 1; night <= 8; night++) {
            price += 2 * 999 * night * (8 - night);
        }
        c.due("all calls by 999", x.plan(255), price);
        orderIs(x, 0, 1, 2, 3, 4, 5, 6, 7);
    }

    /** The PLAN beside all orders of the PROGRAMS, tried one by one. */
    private static void planOfAllOrders() {
        for (int seed = 1; seed <= 60; seed++) {
            java.util.Random random = new java.util.Random(seed);
            CarriedWorks x = new CarriedWorks();
            int[][] prices = new int[8][8];
            int[] needed = new int[8];
            for (int i = 0; i < 14; i++) {
                int p = random.nextInt(8);
                int q = random.nextInt(8);
                int price = random.nextInt(seed % 3 == 0 ? 3 : 1000);
                if (p != q) {
                    x.calls(p, q, price);
                    prices[p][q] = price;
                }
                if (i % 3 == 0 && x.needs(p, q) == 0) {
                    needed[p] |= 1 << q;
                }
            }
            int bits = seed % 4 == 0 ? 255 : random.nextInt(256);
            int[] best = {-1, 0, 0, 0, 0, 0, 0, 0, 0};
            tryAll(prices, needed, bits, 0, 0, new int[8], best);
            c.due("plan " + seed, x.plan(bits), best[0]);
            for (int i = 0; best[0] >= 0 && i < Integer.bitCount(bits); i++) {
                c.due("planned", x.planned(i), best[i + 1]);
            }
        }
    }

    /** Orders are tried by PROGRAMS, so that the first of the least sum is found first. */
    private static void tryAll(int[][] prices, int[] needed, int bits, int done, int sum, int[] order, int[] best) {
        int at = Integer.bitCount(done);
        if (done == bits) {
            if (best[0] < 0 || sum < best[0]) {
                best[0] = sum;
                System.arraycopy(order, 0, best, 1, at);
            }
            return;
        }
        for (int p = 0; p < 8; p++) {
            if ((bits & ~done & 1 << p) != 0 && (needed[p] & ~done) == 0) {
                order[at] = p;
                int then = done | 1 << p;
                tryAll(prices, needed, bits, then, sum + priceOf(prices, then), order, best);
            }
        }
    }

    private static int priceOf(int[][] prices, int over) {
        int price = 0;
        for (int p = 0; p < 8; p++) {
            for (int q = 0; q < 8; q++) {
                if ((over >> p & 1) != (over >> q & 1)) {
                    price += prices[p][q];
                }
            }
        }
        return price;
    }

    /** Promise 34. */
    private static void plannedEdges() {
        CarriedWorks x = new CarriedWorks();
        c.due("ahead of any", x.planned(0), -1);
        x.plan(0x81);
        c.due("first", x.planned(0), 0);
        c.due("second", x.planned(1), 7);
        c.due("third", x.planned(2), -1);
        c.due("-1", x.planned(-1), -1);
        c.due("8", x.planned(8), -1);
        c.due("far", x.planned(Integer.MIN_VALUE), -1);
        c.due("far", x.planned(Integer.MAX_VALUE), -1);
        x.plan(0);
        c.due("none", x.planned(0), -1);
    }
}
