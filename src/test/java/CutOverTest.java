/** Promises 27 to 32: calls, needs, live, back, retire, state. */
public final class CutOverTest {
    private static final int[] WRONG = {-1, 8, Integer.MIN_VALUE, Integer.MAX_VALUE};
    private static final Check c = new Check("cut over");

    public static void main(String[] args) {
        prices();
        needed();
        longChain();
        goesLive();
        nightsThatTellOthers();
        liveNeeds();
        liveOrder();
        goesBack();
        backWithoutCases();
        backAndRetired();
        retires();
        states();
        c.close();
    }

    /** A PROGRAM becomes LIVE, if it needs none that is not. */
    static int goLive(CarriedWorks x, int p) {
        x.end(0);
        x.old(p);
        x.make(p);
        x.sheet(3, 0, 1);
        x.night(p, 3);
        return x.live(p);
    }

    private static void prices() {
        CarriedWorks x = new CarriedWorks();
        c.due("none was told", x.calls(0, 1, 999), -1);
        c.due("what was told", x.calls(0, 1, 0), 999);
        c.due("0 is a price", x.calls(0, 1, -1), 0);
        c.due("it calls it no more", x.calls(0, 1, 5), -1);
        c.due("the other way round", x.calls(1, 0, 7), -1);
        c.due("not that one", x.calls(0, 1, 6), 5);
        c.due("1000", x.calls(0, 1, 1000), -2);
        c.due("-2", x.calls(0, 1, -2), -2);
        c.due("far", x.calls(0, 1, Integer.MIN_VALUE), -2);
        c.due("they are one", x.calls(3, 3, 1), -2);
        for (int wrong : WRONG) {
            c.due("no PROGRAM", x.calls(wrong, 1, 1), -2);
            c.due("no PROGRAM", x.calls(1, wrong, 1), -2);
        }
        c.due("that stayed", x.calls(0, 1, 1), 6);
    }

    private static void needed() {
        CarriedWorks x = new CarriedWorks();
        c.due("itself", x.needs(4, 4), -5);
        c.due("0 needs 1", x.needs(0, 1), 0);
        c.due("once more", x.needs(0, 1), 0);
        c.due("1 needs 0", x.needs(1, 0), -5);
        c.due("1 needs 2", x.needs(1, 2), 0);
        c.due("2 needs 0, by 1", x.needs(2, 0), -5);
        c.due("0 needs 2", x.needs(0, 2), 0);
        c.due("2 needs 3", x.needs(2, 3), 0);
        c.due("3 needs 0", x.needs(3, 0), -5);
        c.due("3 needs 4", x.needs(3, 4), 0);
        for (int wrong : WRONG) {
            c.due("no PROGRAM", x.needs(wrong, 1), -2);
            c.due("no PROGRAM", x.needs(1, wrong), -2);
            c.due("no PROGRAM, and one", x.needs(wrong, wrong), -2);
        }
    }

    private static void longChain() {
        CarriedWorks down = new CarriedWorks();
        CarriedWorks up = new CarriedWorks();
        for (int p = 0; p < 7; p++) {
            c.due("down", down.needs(p, p + 1), 0);
            c.due("up", up.needs(p + 1, p), 0);
        }
        c.due("7 would need itself", down.needs(7, 0), -5);
        c.due("0 would need itself", up.needs(0, 7), -5);
    }

    private static void goesLive() {
        CarriedWorks x = new CarriedWorks();
        c.due("it is OLD", x.live(0), -2);
        Check.old(x, 0, "1:set b=a;");
        x.span(0, 0, 0, 3);
        x.make(0);
        c.due("no NIGHT", x.live(0), -5);
        Check.sheet(x, 0, 0, 1);
        x.night(0, 0);
        Check.renew(x, 0, "else{b=a;}");
        c.due("none since its text", x.live(0), -5);
        x.night(0, 0);
        x.make(0);
        c.due("none since its CASES", x.live(0), -5);
        x.night(0, 0);
        x.span(0, 1, 0, 0);
        c.due("none since its SPANS", x.live(0), -5);
        x.night(0, 0);
        x.wish(0, 0, 7, 0);
        c.due("none since its WISHES", x.live(0), -5);
        x.night(0, 0);
        c.due("refused: nothing was told", Check.renew(x, 0, "else{"), -4);
        c.due("refused: nothing was told", x.span(0, 1, 0, 100), -2);
        c.due("refused: nothing was told", x.wish(0, 1, 0, 1), -2);
        c.due("of another one", Check.old(x, 1, "1:stop;"), 1);
        c.due("live", x.live(0), 0);
        c.due("LIVE", x.state(0), 2);
        c.due("it is LIVE", x.live(0), -2);
        for (int wrong : WRONG) {
            c.due("no PROGRAM", x.live(wrong), -2);
        }
    }

    private static void nightsThatTellOthers() {
        CarriedWorks x = new CarriedWorks();
        x.old(0);
        x.span(0, 0, 0, 1);
        Check.renew(x, 0, "when a=0{}else{b=1;}");
        Check.sheet(x, 0, 0);
        Check.sheet(x, 1, 0, 1);
        c.due("0", x.night(0, 0), 0);
        c.due("1", x.night(0, 1), 1);
        c.due("the latest told 1", x.live(0), -5);
        x.judge(0, 2);
        c.due("it told 1 all the same", x.live(0), -5);
        c.due("now 0", x.night(0, 1), 0);
        c.due("live", x.live(0), 0);
    }

    private static void liveNeeds() {
        CarriedWorks x = new CarriedWorks();
        x.needs(0, 1);
        x.needs(1, 2);
        c.due("1 is OLD", goLive(x, 0), -6);
        c.due("2 is OLD", goLive(x, 1), -6);
        c.due("2 needs none", goLive(x, 2), 0);
        c.due("1 is BESIDE", x.live(0), -6);
        c.due("2 is LIVE", x.live(1), 0);
        c.due("1 is LIVE", x.live(0), 0);
        CarriedWorks y = new CarriedWorks();
        y.needs(0, 1);
        goLive(y, 0);
        goLive(y, 1);
        y.retire(1);
        c.due("1 is RETIRED", y.live(0), 0);
        CarriedWorks z = new CarriedWorks();
        goLive(z, 1);
        z.back(1);
        z.needs(0, 1);
        c.due("1 is BACK", goLive(z, 0), -6);
    }

    private static void liveOrder() {
        CarriedWorks x = new CarriedWorks();
        x.needs(0, 1);
        c.due("it is OLD: -2 ahead of all", x.live(0), -2);
        x.old(0);
        x.make(0);
        c.due("no NIGHT: -5 ahead of -6", x.live(0), -5);
    }

    private static void goesBack() {
        CarriedWorks x = new CarriedWorks();
        x.needs(0, 1);
        x.needs(1, 2);
        x.needs(4, 2);
        for (int p : new int[] {2, 1, 0, 4, 5}) {
            c.due("live", goLive(x, p), 0);
        }
        c.due("1 and 0", x.back(1), 2);
        c.due("BACK", x.state(0), 3);
        c.due("BACK", x.state(1), 3);
        c.due("LIVE", x.state(2), 2);
        c.due("LIVE", x.state(4), 2);
        c.due("it is BACK", x.back(1), -2);
        c.due("2 and 4; 1 and 0 are BACK", x.back(2), 2);
        c.due("LIVE", x.state(5), 2);
        c.due("2 is BACK", x.live(1), -6);
        c.due("live again", x.live(2), 0);
        c.due("live again", x.live(1), 0);
        c.due("live again", x.live(0), 0);
        c.due("none needs it", x.back(0), 1);
        c.due("it is OLD", x.back(7), -2);
        x.old(7);
        x.make(7);
        c.due("it is BESIDE", x.back(7), -2);
        for (int wrong : WRONG) {
            c.due("no PROGRAM", x.back(wrong), -2);
        }
        // 0 needs 2 by 1, which is BACK itself
        c.due("live", x.live(0), 0);
        x.needs(2, 6);
        goLive(x, 6);
        c.due("6, 2, 1, 0", x.back(6), 4);
    }

    private static void backWithoutCases() {
        CarriedWorks x = new CarriedWorks();
        x.old(0);
        x.renew(0);
        x.sheet(0, 0, 0);
        c.due("no INPUTS", x.night(0, 0), 0);
        c.due("live", x.live(0), 0);
        c.due("back", x.back(0), 1);
        c.due("BACK, without CASES", x.live(0), -2);
    }

    private static void backAndRetired() {
        CarriedWorks x = new CarriedWorks();
        x.needs(0, 1);
        x.needs(1, 2);
        for (int p : new int[] {2, 1, 0}) {
            goLive(x, p);
        }
        c.due("retire", x.retire(0), 0);
        c.due("0 needs it by 1", x.back(2), -5);
        c.due("0 needs it", x.back(1), -5);
        c.due("none went", x.count(2), 2);
        c.due("it is RETIRED", x.back(0), -2);
    }

    private static void retires() {
        CarriedWorks x = new CarriedWorks();
        c.due("it is OLD", x.retire(0), -2);
        goLive(x, 0);
        x.calls(1, 0, 0);
        c.due("1 calls it", x.retire(0), -5);
        c.due("LIVE still", x.state(0), 2);
        goLive(x, 1);
        x.back(1);
        c.due("1 is BACK", x.retire(0), -5);
        x.live(1);
        x.calls(0, 5, 3);
        c.due("1 is LIVE, and it may call others", x.retire(0), 0);
        c.due("RETIRED", x.state(0), 4);
        c.due("it is RETIRED", x.retire(0), -2);
        x.calls(0, 1, 2);
        c.due("a RETIRED one calls it", x.retire(1), 0);
        goLive(x, 2);
        x.calls(7, 2, 9);
        c.due("7 calls it", x.retire(2), -5);
        x.calls(7, 2, -1);
        c.due("no more", x.retire(2), 0);
        CarriedWorks y = new CarriedWorks();
        goLive(y, 7);
        y.calls(0, 7, 1);
        c.due("0 calls it", y.retire(7), -5);
        for (int wrong : WRONG) {
            c.due("no PROGRAM", x.retire(wrong), -2);
        }
        x.old(3);
        x.make(3);
        c.due("it is BESIDE", x.retire(3), -2);
        c.due("it is RETIRED", x.live(0), -2);
    }

    private static void states() {
        CarriedWorks x = new CarriedWorks();
        c.due("OLD", x.state(7), 0);
        x.renew(7);
        c.due("BESIDE", x.state(7), 1);
        goLive(x, 6);
        c.due("LIVE", x.state(6), 2);
        x.back(6);
        c.due("BACK", x.state(6), 3);
        x.live(6);
        x.retire(6);
        c.due("RETIRED", x.state(6), 4);
        for (int wrong : WRONG) {
            c.due("no PROGRAM", x.state(wrong), -2);
        }
    }
}
