import java.util.ArrayList;
import java.util.List;
import java.util.function.BiConsumer;

/** One object that has something of everything, and all that later calls can tell of one. */
final class Everything {
    /** PROGRAMS by what they are. */
    static final int OLD = 0;
    static final int BESIDE = 1;
    static final int LIVE = 2;
    static final int BACK = 3;
    static final int RETIRED = 4;
    static final int NO_OLD_TEXT = 5;
    static final int WIDE = 6;
    static final int WAITING = 7;

    static final String ROUNDS = "1:if a<1 go 4;2:set a=a-1;3:go 1;4:if b<1 go 7;5:set b=b-1;6:go 4;7:stop;";

    private Everything() {
    }

    static CarriedWorks made() {
        CarriedWorks x = new CarriedWorks();
        slots(x);
        texts(x);
        cutOver(x);
        rows(x);
        x.keep(0);
        behindTheImage(x);
        found(x);
        return x;
    }

    /** SLOT 2 has a row without numbers, SLOT 3 has nothing. */
    private static void slots(CarriedWorks x) {
        Check.sheet(x, 0, 0, 1, 2, 3);
        x.sheet(1, 0, 3);
        x.write(1, 0, 5);
        x.write(1, 1, -1);
        x.write(1, 2, 7);
        x.sheet(2, 2, 0);
    }

    private static void texts(CarriedWorks x) {
        Check.old(x, OLD, "10:if b>1 go 30;20:set c=2*b+d;30:stop;40:go 10;");
        x.span(OLD, 1, 0, 2);
        x.span(OLD, 3, -1, 0);
        Check.old(x, BESIDE, "5:set h=a;6:if a>1 go 8;7:stop;8:set g=1;");
        x.span(BESIDE, 0, 0, 3);
        Check.renew(x, BESIDE, "when a<1{h=a;}when a<3{h=7;}else{h=a;}");
        x.wish(BESIDE, 1, 7, 2);
        x.night(BESIDE, 0);
        x.judge(0, 2);
        Check.renew(x, NO_OLD_TEXT, "else{a=1;}");
        Check.old(x, WIDE, ROUNDS);
        for (int f = 0; f < 3; f++) {
            x.span(WIDE, f, 0, 15);
        }
    }

    private static void goLive(CarriedWorks x, int p) {
        Check.old(x, p, "1:set a=b+3;");
        x.span(p, 1, 0, 3);
        x.make(p);
        x.night(p, 0);
        x.live(p);
    }

    private static void cutOver(CarriedWorks x) {
        x.calls(OLD, LIVE, 5);
        x.calls(LIVE, RETIRED, 7);
        x.calls(BESIDE, OLD, 999);
        x.calls(BACK, BESIDE, 0);
        x.needs(RETIRED, LIVE);
        x.needs(WAITING, OLD);
        x.needs(NO_OLD_TEXT, WAITING);
        goLive(x, LIVE);
        goLive(x, BACK);
        x.back(BACK);
        goLive(x, RETIRED);
        x.retire(RETIRED);
        goLive(x, WAITING);
    }

    private static void rows(CarriedWorks x) {
        x.form(3, -1);
        x.put(0, 0, 50);
        x.lead(0);
        x.put(1, 1, 51);
        x.lead(1);
        x.put(2, 0, 4);
        x.put(2, 0, 5);
        x.put(19, 1, -9);
    }

    private static void behindTheImage(CarriedWorks x) {
        x.judge(1, 1);
        x.night(BESIDE, 0);
        x.put(3, 0, 1);
        x.calls(WIDE, WAITING, 3);
        x.needs(WIDE, BESIDE);
    }

    private static void found(CarriedWorks x) {
        Check.renew(x, BESIDE, "else{a=10000;}");
        Check.tape(x, "7:stop;x");
        x.run(OLD, 3);
        x.ways(OLD);
        x.plan(1 << OLD | 1 << WAITING);
    }

    /** Each is asked of an object of its own, as some change it, and to stay below 512 calls. */
    static List<BiConsumer<CarriedWorks, List<Integer>>> probes() {
        List<BiConsumer<CarriedWorks, List<Integer>>> all = new ArrayList<>();
        all.add(Everything::told);
        all.add(Everything::foundWays);
        all.add(Everything::spansOf);
        all.add(Everything::callsOf);
        all.add(Everything::plansOf);
        all.add(Everything::needsOf);
        all.add(Everything::cutOverOf);
        all.add(Everything::rowsOf);
        all.add(Everything::tapeOf);
        for (int i = 0; i < 8; i++) {
            int p = i;
            all.add((x, to) -> textsOf(x, p, to));
            all.add(behindRestore((x, to) -> textsOf(x, p, to)));
        }
        for (int i = 0; i < 3; i++) {
            int slot = i;
            all.add((x, to) -> slotsOf(x, slot, to));
        }
        all.add(behindRestore(Everything::told));
        all.add(behindRestore(Everything::callsOf));
        all.add(behindRestore(Everything::plansOf));
        return all;
    }

    /** What IMAGE 0 has, and that the others have nothing. */
    private static BiConsumer<CarriedWorks, List<Integer>> behindRestore(BiConsumer<CarriedWorks, List<Integer>> probe) {
        return (x, to) -> {
            for (int k = 2; k >= 0; k--) {
                to.add(x.restore(k));
            }
            probe.accept(x, to);
        };
    }

    private static void told(CarriedWorks x, List<Integer> to) {
        for (int what = 0; what <= 10; what++) {
            to.add(x.count(what));
        }
        to.add(x.fault(0));
        to.add(x.fault(1));
        to.add(x.did());
        to.add(x.heaps());
        to.add(x.check());
        for (int i = 0; i < 8; i++) {
            to.add(x.field(i));
            to.add(x.state(i));
            to.add(x.planned(i));
        }
        for (int h = 0; h <= x.heaps(); h++) {
            for (int what = 0; what < 7; what++) {
                to.add(x.heap(h, what));
            }
        }
        for (int i = 0; i < 20; i++) {
            for (int what = 0; what < 5; what++) {
                to.add(x.row(i, what));
            }
        }
    }

    private static void foundWays(CarriedWorks x, List<Integer> to) {
        to.add(x.dead());
        to.add(x.kinds());
        for (int w = 0; w < 4; w++) {
            for (int what = 0; what < 4; what++) {
                to.add(x.way(w, what, 0));
            }
            for (int i = 0; i < 5; i++) {
                to.add(x.way(w, 4, i));
            }
            for (int f = 0; f < 8; f++) {
                for (int i = -1; i < 3; i++) {
                    to.add(x.rule(w, f, i));
                }
            }
        }
    }

    private static void textsOf(CarriedWorks x, int p, List<Integer> to) {
        to.add(x.unlike(p));
        to.add(x.parts(p, 0));
        for (int input = 0; input < 7; input++) {
            to.add(x.where(p, input));
            to.add(x.run(p, input));
            to.add(x.did());
            to.add(x.field(7));
            to.add(x.runNew(p, input));
            to.add(x.did());
            to.add(x.field(0));
        }
        for (int k = 0; k < 4; k++) {
            to.add(x.casing(p, k, 0, 0, 0));
            to.add(x.casing(p, k, 1, 0, 0));
            for (int j = 0; j < 8; j++) {
                to.add(x.casing(p, k, 3, j, 0));
                to.add(x.casing(p, k, 4, j, 0));
                to.add(x.casing(p, k, 2, j, j));
            }
        }
    }

    private static void spansOf(CarriedWorks x, List<Integer> to) {
        for (int p = 0; p < 8; p++) {
            to.add(x.run(p, 4095));
            to.add(x.run(p, 1));
            for (int f = 0; f < 8; f++) {
                to.add(x.field(f));
            }
            for (int f = 7; f >= 0; f--) {
                to.add(x.span(p, f, 1, 0));
            }
        }
    }

    private static void callsOf(CarriedWorks x, List<Integer> to) {
        for (int p = 0; p < 8; p++) {
            for (int q = 0; q < 8; q++) {
                to.add(x.calls(p, q, 1));
            }
        }
    }

    private static void plansOf(CarriedWorks x, List<Integer> to) {
        for (int bits = 0; bits < 256; bits++) {
            to.add(x.plan(bits));
        }
    }

    private static void needsOf(CarriedWorks x, List<Integer> to) {
        for (int p = 0; p < 8; p++) {
            for (int q = 0; q < 8; q++) {
                to.add(x.needs(p, q));
            }
        }
    }

    private static void cutOverOf(CarriedWorks x, List<Integer> to) {
        for (int p = 0; p < 8; p++) {
            to.add(x.live(p));
            to.add(x.back(p));
            to.add(x.retire(p));
        }
        for (int p = 0; p < 8; p++) {
            to.add(x.make(p));
            to.add(x.night(p, 0));
            to.add(x.live(p));
            to.add(x.state(p));
        }
    }

    private static void rowsOf(CarriedWorks x, List<Integer> to) {
        for (int i = 0; i < 20; i++) {
            to.add(x.put(i, 0, 100 + i));
            to.add(x.lead(i));
            to.add(x.put(i, 1, 100 + i));
            to.add(x.lead(i));
        }
    }

    private static void slotsOf(CarriedWorks x, int slot, List<Integer> to) {
        to.add(x.write(3, 0, 0));
        for (int width = 0; width < 4; width++) {
            x.sheet(3, width, 1);
            for (int i = 0; i < 5; i++) {
                int pasted = x.paste(slot, i, 3, 0, 1);
                to.add(pasted);
                if (pasted == 0) {
                    numberOf(x, to);
                }
            }
        }
    }

    /** The number in SLOT 3, as the first INPUT of the only HEAP of a PROGRAM that has them all. */
    private static void numberOf(CarriedWorks x, List<Integer> to) {
        x.keep(2);
        x.end(0);
        x.renew(WIDE);
        int night = x.night(WIDE, 3);
        to.add(night);
        for (int h = 0; night > 0 && h < x.heaps(); h++) {
            if (x.heap(h, 0) == WIDE) {
                to.add(x.heap(h, 6));
            }
        }
        x.restore(2);
    }

    private static void tapeOf(CarriedWorks x, List<Integer> to) {
        to.add(x.old(OLD));
        to.add(x.fault(0));
        to.add(x.fault(1));
        to.add(x.ways(OLD));
        to.add(x.way(0, 4, 0));
    }
}
