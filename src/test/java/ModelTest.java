import java.util.Random;

/** All promises: long runs of calls by chance, each answer held against that of the plain model. */
public final class ModelTest {
    private final Random chance;
    private final Texts texts;
    private final int seed;
    private CarriedWorks x = new CarriedWorks();
    private Model m = new Model();
    private final int programs;
    private int calls;

    private ModelTest(int seed) {
        this.seed = seed;
        chance = new Random(seed);
        texts = new Texts(chance);
        programs = 1 + chance.nextInt(8);
    }

    public static void main(String[] args) {
        int from = args.length > 0 ? Integer.parseInt(args[0]) : 0;
        int runs = args.length > 1 ? Integer.parseInt(args[1]) : 300;
        Check all = new Check("model");
        int[] seen = new int[46];
        for (int seed = from; seed < from + runs; seed++) {
            ModelTest test = new ModelTest(seed);
            for (int step = 0; step < 150 && test.wrong == 0; step++) {
                test.step(seen);
            }
            all.due("run " + seed, test.wrong, 0);
        }
        for (int call = 0; call < 46; call++) {
            if (call != 0 && runs >= 300) {
                all.holds("call " + call + " was made", seen[call] > 0);
            }
        }
        all.close();
    }

    private int wrong;

    private void same(String call, long got, long want) {
        calls++;
        if (got != want) {
            wrong++;
            System.out.println("seed " + seed + ", call " + calls + ": " + call + " answered " + got + ", the model " + want);
        }
    }

    private int in(int n) {
        return chance.nextInt(n);
    }

    private int wild() {
        int[] edges = {Integer.MIN_VALUE, Integer.MAX_VALUE, -2, -1, 8, 256, 1 << 30, -99, 100, 10000, -10000};
        return edges[in(edges.length)];
    }

    /** Mostly one of the first n numbers, at times any. */
    private int some(int n) {
        return in(25) == 0 ? wild() : in(n);
    }

    private int program() {
        return in(40) == 0 ? wild() : in(programs);
    }

    private void feedText(String text) {
        StringBuilder full = new StringBuilder(text);
        while (full.length() % 20 != 0) {
            full.append((char) in(256));
        }
        same("end(0)", x.end(0), m.end(0));
        for (int at = 0; at < full.length(); at += 20) {
            int[] v = new int[5];
            for (int i = 0; i < 20; i++) {
                v[i / 4] = v[i / 4] << 8 | full.charAt(at + i) & 255;
            }
            same("feed", x.feed(v[0], v[1], v[2], v[3], v[4]), m.feed(v[0], v[1], v[2], v[3], v[4]));
        }
        same("end", x.end(text.length()), m.end(text.length()));
    }

    private void step(int[] seen) {
        int kind = in(100);
        int way = in(30);
        if (way == 0) {
            carry(in(programs));
            return;
        }
        if (way < 4) {
            goLive(in(programs));
            return;
        }
        int call = kind < 2 ? 4 : kind < 4 ? 5 : kind < 6 ? 7 : kind < 8 ? 30 : kind < 10 ? 33 : 1 + in(45);
        seen[call]++;
        if (call < 12) {
            stepTexts(call);
        } else if (call < 23) {
            stepWays(call);
        } else if (call < 35) {
            stepCutOver(call);
        } else {
            stepRest(call);
        }
    }

    /** A PROGRAM all the way, so that rich answers come about more often than by chance. */
    private void carry(int p) {
        int fields = 1 + in(3);
        for (int f = 0; f < fields; f++) {
            int low = in(4) - 2;
            int high = low + in(7);
            same("span", x.span(p, f, low, high), m.span(p, f, low, high));
        }
        feedText(texts.branching());
        same("old", x.old(p), m.old(p));
        same("ways", x.ways(p), m.ways(p));
        askWays();
        if (in(3) == 0) {
            feedText(texts.anew());
            same("renew", x.renew(p), m.renew(p));
        } else {
            same("make", x.make(p), m.make(p));
        }
        askCases(p);
        same("unlike", x.unlike(p), m.unlike(p));
        for (int i = in(5); i > 0; i--) {
            int c = in(4);
            int f = in(4);
            int more = in(9) - 4;
            same("wish", x.wish(p, c, f, more), m.wish(p, c, f, more));
        }
        for (int input = 0; input < 20; input++) {
            same("where", x.where(p, input), m.where(p, input));
        }
        same("parts", x.parts(p, 0), m.parts(p, 0));
        for (int i = 0; i < 3; i++) {
            nightRow(i);
            same("night", x.night(p, i), m.night(p, i));
            int h = in(8);
            int word = 1 + in(2);
            same("judge", x.judge(h, word), m.judge(h, word));
        }
        for (int h = 0; h <= m.heaps(); h++) {
            for (int what = 0; what < 7; what++) {
                same("heap", x.heap(h, what), m.heap(h, what));
            }
        }
    }

    private void askWays() {
        same("dead", x.dead(), m.dead());
        same("kinds", x.kinds(), m.kinds());
        for (int w = 0; w < 12; w++) {
            for (int what = 0; what < 4; what++) {
                same("way", x.way(w, what, 0), m.way(w, what, 0));
            }
            int lines = m.way(w, 3, 0);
            for (int i = 0; i <= lines; i++) {
                same("way", x.way(w, 4, i), m.way(w, 4, i));
            }
            for (int f = 0; f < 8; f++) {
                for (int i = -2; i < 4; i++) {
                    same("rule", x.rule(w, f, i), m.rule(w, f, i));
                }
            }
        }
    }

    private void askCases(int p) {
        for (int c = 0; c < 6; c++) {
            for (int what = 0; what < 5; what++) {
                for (int j = 0; j < 9; j++) {
                    int i = in(9);
                    same("casing", x.casing(p, c, what, j, i), m.casing(p, c, what, j, i));
                }
            }
        }
    }

    private void goLive(int p) {
        if (m.state(p) == 0) {
            feedText("");
            same("old", x.old(p), m.old(p));
            same("make", x.make(p), m.make(p));
        }
        if (m.state(p) == 1) {
            same("sheet", x.sheet(0, 0, 0), m.sheet(0, 0, 0));
            same("night", x.night(p, 0), m.night(p, 0));
        }
        same("live", x.live(p), m.live(p));
    }

    private void stepTexts(int call) {
        int p = program();
        int a = some(8);
        switch (call) {
            case 2:
                same("feed", x.feed(a, p, call, a, p), m.feed(a, p, call, a, p));
                break;
            case 3:
                a = some(620);
                same("end", x.end(a), m.end(a));
                break;
            case 4:
                feedText(in(30) == 0 ? texts.anew() : texts.old());
                same("old", x.old(p), m.old(p));
                same("fault 0", x.fault(0), m.fault(0));
                same("fault 1", x.fault(1), m.fault(1));
                break;
            case 5:
                feedText(in(30) == 0 ? texts.old() : texts.anew());
                same("renew", x.renew(p), m.renew(p));
                same("fault 0", x.fault(0), m.fault(0));
                same("fault 1", x.fault(1), m.fault(1));
                break;
            case 6:
                a = some(3);
                same("fault", x.fault(a), m.fault(a));
                break;
            case 7:
                int low = in(30) == 0 ? some(210) - 105 : in(12) - 4;
                int high = in(30) == 0 ? some(210) - 105 : low + in(8) - 1;
                a = in(3) == 0 ? a : in(4);
                same("span", x.span(p, a, low, high), m.span(p, a, low, high));
                break;
            case 8: case 9: case 10: case 11:
                a = some(in(2) == 0 ? 4 : 60);
                if (call % 2 == 0) {
                    same("run", x.run(p, a), m.run(p, a));
                } else {
                    same("runNew", x.runNew(p, a), m.runNew(p, a));
                }
                same("did", x.did(), m.did());
                for (int f = -1; f <= 8; f++) {
                    same("field", x.field(f), m.field(f));
                }
                break;
            default:
                break;
        }
    }

    private void stepWays(int call) {
        int p = program();
        int a = some(4);
        int b = some(8);
        int c = some(4) - 1;
        switch (call) {
            case 12:
                same("ways", x.ways(p), m.ways(p));
                break;
            case 13:
                c = some(10);
                b = in(2) == 0 ? 4 : some(5);
                same("way", x.way(a, b, c), m.way(a, b, c));
                break;
            case 14:
                for (int f = 0; f < 8; f++) {
                    same("rule", x.rule(a, f, c), m.rule(a, f, c));
                }
                same("rule", x.rule(a, b, c), m.rule(a, b, c));
                break;
            case 15:
                same("dead", x.dead(), m.dead());
                break;
            case 16:
                same("kinds", x.kinds(), m.kinds());
                break;
            case 17:
                same("make", x.make(p), m.make(p));
                break;
            case 18:
                c = in(20) == 0 ? some(300) - 150 : in(20) - 10;
                same("wish", x.wish(p, a, b, c), m.wish(p, a, b, c));
                break;
            case 19:
                int what = some(5);
                int i = some(8);
                same("casing", x.casing(p, a, what, b, i), m.casing(p, a, what, b, i));
                break;
            case 20:
                same("unlike", x.unlike(p), m.unlike(p));
                break;
            case 21:
                a = some(in(2) == 0 ? 3 : 60);
                same("parts", x.parts(p, a), m.parts(p, a));
                break;
            default:
                a = some(in(2) == 0 ? 3 : 60);
                same("where", x.where(p, a), m.where(p, a));
                break;
        }
    }

    private void nightRow(int slot) {
        int n = in(10) == 0 ? 0 : 1 + in(12);
        int width = in(4);
        int most = 1 + in(in(3) == 0 ? 1 : 9);
        same("sheet", x.sheet(slot, width, n), m.sheet(slot, width, n));
        for (int i = 0; i < n; i++) {
            long v = in(60) == 0 ? wild() : in(most);
            same("write", x.write(slot, i, v), m.write(slot, i, v));
        }
    }

    private void stepCutOver(int call) {
        int p = program();
        int q = program();
        int a = some(5);
        switch (call) {
            case 23:
                int slot = some(4);
                if (in(3) > 0) {
                    nightRow(slot);
                }
                same("night", x.night(p, slot), m.night(p, slot));
                break;
            case 24:
                same("heaps", x.heaps(), m.heaps());
                break;
            case 25:
                a = some(in(2) == 0 ? 70 : 6);
                for (int what = -1; what <= 7; what++) {
                    same("heap", x.heap(a, what), m.heap(a, what));
                }
                break;
            case 26:
                q = in(5) == 0 ? some(4) : 2;
                same("judge", x.judge(a, q), m.judge(a, q));
                break;
            case 27:
                a = in(6) == 0 ? -1 : in(10) == 0 ? 990 + in(15) : in(4);
                same("calls", x.calls(p, q, a), m.calls(p, q, a));
                break;
            case 28:
                same("needs", x.needs(p, q), m.needs(p, q));
                break;
            case 29:
                same("live", x.live(p), m.live(p));
                break;
            case 30:
                same("back", x.back(p), m.back(p));
                break;
            case 31:
                if (in(3) == 0) {
                    same("retire", x.retire(p), m.retire(p));
                }
                break;
            case 32:
                same("state", x.state(p), m.state(p));
                break;
            case 33:
                a = in(30) == 0 ? wild() : in(programs < 7 ? 1 << programs : 128);
                same("plan", x.plan(a), m.plan(a));
                break;
            default:
                for (int i = -1; i < 9; i++) {
                    same("planned", x.planned(i), m.planned(i));
                }
                break;
        }
    }

    private void stepRest(int call) {
        int a = some(6);
        int b = some(6);
        int c = in(10) == 0 ? some(20010) - 10005 : in(30) - 15;
        int slot = some(4);
        int to = in(4) == 0 ? slot : some(4);
        switch (call) {
            case 35:
                a = some(10);
                same("form", x.form(a, c), m.form(a, c));
                break;
            case 36:
                a = some(20);
                b = some(2);
                same("put", x.put(a, b, c), m.put(a, b, c));
                break;
            case 37:
                a = some(20);
                same("lead", x.lead(a), m.lead(a));
                break;
            case 38:
                a = some(20);
                same("row", x.row(a, b), m.row(a, b));
                break;
            case 39:
                same("check", x.check(), m.check());
                break;
            case 40:
                for (int what = -1; what <= 11; what++) {
                    same("count", x.count(what), m.count(what));
                }
                break;
            case 41:
                a = some(3);
                same("keep", x.keep(a), m.keep(a));
                break;
            case 42:
                a = some(3);
                if (in(3) == 0) {
                    same("restore", x.restore(a), m.restore(a));
                }
                break;
            case 43:
                a = some(4);
                b = some(63) - 1;
                same("sheet", x.sheet(slot, a, b), m.sheet(slot, a, b));
                break;
            case 44:
                long v = chance.nextLong() >> in(64);
                same("write", x.write(slot, a, v), m.write(slot, a, v));
                break;
            default:
                c = some(5);
                same("paste", x.paste(slot, a, to, b, c), m.paste(slot, a, to, b, c));
                break;
        }
    }
}
