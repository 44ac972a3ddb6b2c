import java.util.ArrayList;
import java.util.List;
import java.util.function.Consumer;
import java.util.function.ToIntFunction;

/**
 * Every call that the document refuses, promise by promise, on an object that has something of everything:
 * the answer that is due, and that all later calls answer as if it had not been. So do calls that only tell.
 */
public final class RefusedTest {
    private static final int NOTHING = -2000000000;
    private static final int[] NO_PROGRAM = {-1, 8, Integer.MIN_VALUE, Integer.MAX_VALUE};
    private static final int[] NO_SLOT = {-1, 4, Integer.MIN_VALUE, Integer.MAX_VALUE};
    private static final int[] NO_IMAGE = {-1, 3, Integer.MIN_VALUE, Integer.MAX_VALUE};
    private static final int[] NO_EDGE = {-100, 100, Integer.MIN_VALUE, Integer.MAX_VALUE};
    private static final Check c = new Check("refused");

    public static void main(String[] args) {
        hasSomethingOfEverything();
        changesAreSeen();
        theTape();
        texts();
        spans();
        runs();
        ways();
        makes();
        wishes();
        casings();
        unlikes();
        nights();
        heaps();
        calls();
        needs();
        cutOvers();
        plans();
        rows();
        images();
        sheets();
        writes();
        pastes();
        onlyTold();
        c.close();
    }

    private static List<List<Integer>> tellsAll(Consumer<CarriedWorks> ahead) {
        List<List<Integer>> all = new ArrayList<>();
        for (var probe : Everything.probes()) {
            CarriedWorks x = Everything.made();
            ahead.accept(x);
            List<Integer> told = new ArrayList<>();
            probe.accept(x, told);
            all.add(told);
        }
        return all;
    }

    private static final List<List<Integer>> UNTOUCHED = tellsAll(x -> { });

    private static void due(String call, int want, ToIntFunction<CarriedWorks> calls) {
        List<List<Integer>> then = tellsAll(x -> c.due(call, calls.applyAsInt(x), want));
        c.holds("nothing happened by " + call, then.equals(UNTOUCHED));
    }

    /** The like where the object is led to a state first. */
    private static void dueBehind(Consumer<CarriedWorks> ahead, String call, int want, ToIntFunction<CarriedWorks> calls) {
        List<List<Integer>> then = tellsAll(ahead.andThen(x -> c.due(call, calls.applyAsInt(x), want)));
        c.holds("nothing happened by " + call, then.equals(tellsAll(ahead)));
    }

    private static void hasSomethingOfEverything() {
        CarriedWorks x = Everything.made();
        int[] states = {0, 1, 2, 3, 4, 1, 0, 1};
        for (int p = 0; p < 8; p++) {
            c.due("state of " + p, x.state(p), states[p]);
        }
        int[] counts = {19, 3 + 4 + 1, 1, 1, 3, 8, 6, 1, 1, 3, 1};
        for (int what = 0; what <= 10; what++) {
            c.due("count " + what, x.count(what), counts[what]);
        }
    }

    private static void seen(String call, ToIntFunction<CarriedWorks> calls) {
        List<List<Integer>> then = tellsAll(x -> c.holds(call + " is not refused", calls.applyAsInt(x) >= 0));
        c.holds("later calls tell of " + call, !then.equals(UNTOUCHED));
    }

    /** What the calls below would do if they were not refused is seen by what is asked behind them. */
    private static void changesAreSeen() {
        seen("feed", x -> x.feed(0, 0, 0, 0, 0));
        seen("end", x -> x.end(7));
        seen("old", x -> x.end(7) + x.old(Everything.OLD));
        seen("renew", x -> x.end(0) + x.renew(Everything.OLD));
        seen("span", x -> x.span(Everything.OLD, 1, 0, 3));
        seen("span, BESIDE", x -> x.span(Everything.BESIDE, 1, 4, 4));
        seen("run", x -> x.run(Everything.OLD, 5));
        seen("runNew", x -> x.runNew(Everything.BESIDE, 0));
        seen("ways", x -> x.ways(Everything.BESIDE));
        seen("make", x -> x.make(Everything.OLD));
        seen("wish", x -> x.wish(Everything.BESIDE, 0, 7, 1));
        seen("night", x -> x.night(Everything.BESIDE, 0));
        seen("a night of none", x -> x.night(Everything.BESIDE, 2));
        seen("judge", x -> x.judge(2, 1));
        seen("calls", x -> 1 + x.calls(Everything.NO_OLD_TEXT, Everything.OLD, 0));
        seen("needs", x -> x.needs(Everything.OLD, Everything.BACK));
        seen("live", x -> x.live(Everything.BACK));
        seen("plan", x -> x.plan(1));
        seen("form", x -> x.form(3, -2));
        seen("put", x -> x.put(2, 0, 5));
        seen("lead", x -> x.lead(2));
        seen("keep", x -> x.keep(1));
        seen("keep over another", x -> x.keep(0));
        seen("restore", x -> x.restore(0));
        seen("sheet", x -> x.sheet(3, 0, 0));
        seen("sheet in place of another", x -> x.sheet(2, 1, 0));
        seen("write", x -> x.write(1, 2, 6));
        seen("paste", x -> x.paste(0, 0, 0, 3, 1));
    }

    /** Promises 2 and 3. */
    private static void theTape() {
        Consumer<CarriedWorks> full = x -> Check.tape(x, " ".repeat(592) + "8:stop;x");
        dueBehind(full, "feed to 600", -1, x -> x.feed(0x3b3b3b3b, 1, 2, 3, 4));
        dueBehind(full, "end(601)", -1, x -> x.end(601));
        Consumer<CarriedWorks> almost = x -> Check.tape(x, " ".repeat(573) + "8:stop;x");
        dueBehind(almost, "feed to 581", -1, x -> x.feed(0x3b3b3b3b, 1, 2, 3, 4));
        Consumer<CarriedWorks> empty = x -> x.end(0);
        dueBehind(empty, "end(1) of none", -1, x -> x.end(1));
        for (int n : new int[] {-1, 9, 600, 601, Integer.MIN_VALUE, Integer.MAX_VALUE}) {
            due("end(" + n + ")", -1, x -> x.end(n));
        }
    }

    /** Promises 4, 5 and 6: -2, and a what that is none. */
    private static void texts() {
        for (int p : NO_PROGRAM) {
            due("old(" + p + ")", -2, x -> x.old(p));
            due("renew(" + p + ")", -2, x -> x.renew(p));
        }
        for (int p : new int[] {Everything.BESIDE, Everything.LIVE, Everything.BACK, Everything.RETIRED, Everything.NO_OLD_TEXT}) {
            due("old() of one that is not OLD: " + p, -2, x -> x.old(p));
        }
        for (int p : new int[] {Everything.LIVE, Everything.BACK, Everything.RETIRED}) {
            due("renew() of one that is neither OLD nor BESIDE: " + p, -2, x -> x.renew(p));
        }
        for (int what : new int[] {-1, 2, Integer.MIN_VALUE, Integer.MAX_VALUE}) {
            due("fault(" + what + ")", -1, x -> x.fault(what));
        }
    }

    /** Promise 7. */
    private static void spans() {
        for (int p : NO_PROGRAM) {
            due("span of PROGRAM " + p, -2, x -> x.span(p, 0, 0, 1));
            due("span of FIELD " + p, -2, x -> x.span(Everything.OLD, p, 0, 1));
        }
        for (int edge : NO_EDGE) {
            due("low " + edge, -2, x -> x.span(Everything.OLD, 1, edge, 1));
            due("high " + edge, -2, x -> x.span(Everything.OLD, 1, 0, edge));
            due("a fourth, low " + edge, -2, x -> x.span(Everything.WIDE, 5, edge, 0));
        }
        for (int p : new int[] {Everything.LIVE, Everything.BACK, Everything.RETIRED}) {
            due("span, neither OLD nor BESIDE: " + p, -2, x -> x.span(p, 1, 0, 1));
            due("no span, neither OLD nor BESIDE: " + p, -2, x -> x.span(p, 1, 1, 0));
        }
        due("a fourth FIELD, of one number", -3, x -> x.span(Everything.WIDE, 3, 0, 0));
        due("a fourth FIELD", -3, x -> x.span(Everything.WIDE, 7, 0, 1));
        due("17 * 256 INPUTS", -3, x -> x.span(Everything.WIDE, 0, 0, 16));
        due("199 * 256 INPUTS", -3, x -> x.span(Everything.WIDE, 2, -99, 99));
        Consumer<CarriedWorks> two = x -> x.span(Everything.WIDE, 2, 1, 0);
        dueBehind(two, "17 * 256 INPUTS by a third", -3, x -> x.span(Everything.WIDE, 7, 0, 16));
        Consumer<CarriedWorks> wide = x -> {
            x.span(Everything.OLD, 1, 0, 40);
            x.span(Everything.OLD, 3, 0, 98);
        };
        dueBehind(wide, "41 * 100 INPUTS", -3, x -> x.span(Everything.OLD, 3, -1, 98));
    }

    /** Promises 8, 9 and 10. */
    private static void runs() {
        for (int p : NO_PROGRAM) {
            due("run of PROGRAM " + p, -2, x -> x.run(p, 0));
            due("runNew of PROGRAM " + p, -2, x -> x.runNew(p, 0));
            due("field(" + p + ")", -1, x -> x.field(p));
        }
        for (int input : new int[] {-1, 6, Integer.MIN_VALUE, Integer.MAX_VALUE}) {
            due("run with INPUT " + input, -2, x -> x.run(Everything.OLD, input));
        }
        for (int input : new int[] {-1, 4, Integer.MIN_VALUE, Integer.MAX_VALUE}) {
            due("runNew with INPUT " + input, -2, x -> x.runNew(Everything.BESIDE, input));
        }
        due("run with INPUT 4096", -2, x -> x.run(Everything.WIDE, 4096));
        due("run without an OLD text", -2, x -> x.run(Everything.NO_OLD_TEXT, 0));
        due("runNew without a NEW text", -2, x -> x.runNew(Everything.OLD, 0));
    }

    /** Promises 12, 13 and 14. */
    private static void ways() {
        for (int p : NO_PROGRAM) {
            due("ways(" + p + ")", -2, x -> x.ways(p));
            due("rule of FIELD " + p, NOTHING, x -> x.rule(0, p, 0));
        }
        due("ways without an OLD text", -2, x -> x.ways(Everything.NO_OLD_TEXT));
        due("more than 200 WAYS", -3, x -> x.ways(Everything.WIDE));
        for (int w : new int[] {-1, 2, Integer.MIN_VALUE, Integer.MAX_VALUE}) {
            due("way(" + w + ")", -1, x -> x.way(w, 0, 0));
            due("rule(" + w + ")", NOTHING, x -> x.rule(w, 0, 0));
        }
        for (int what : new int[] {-1, 5, Integer.MIN_VALUE, Integer.MAX_VALUE}) {
            due("way what " + what, -1, x -> x.way(0, what, 0));
        }
        for (int i : new int[] {-1, 3, Integer.MIN_VALUE, Integer.MAX_VALUE}) {
            due("LINE " + i, -1, x -> x.way(0, 4, i));
        }
        for (int i : new int[] {-2, 2, Integer.MIN_VALUE, Integer.MAX_VALUE}) {
            due("rule of FIELD with a SPAN " + i, NOTHING, x -> x.rule(0, 0, i));
        }
    }

    /** Promise 17. */
    private static void makes() {
        for (int p : NO_PROGRAM) {
            due("make(" + p + ")", -2, x -> x.make(p));
        }
        due("make without an OLD text", -2, x -> x.make(Everything.NO_OLD_TEXT));
        for (int p : new int[] {Everything.LIVE, Everything.BACK, Everything.RETIRED}) {
            due("make, neither OLD nor BESIDE: " + p, -2, x -> x.make(p));
        }
        due("more than 200 WAYS", -3, x -> x.make(Everything.WIDE));
        Consumer<CarriedWorks> fortyOne = x -> {
            x.span(Everything.WIDE, 0, 0, 1);
            x.span(Everything.WIDE, 1, 0, 20);
            x.span(Everything.WIDE, 2, 1, 0);
        };
        dueBehind(fortyOne, "42 CASES", -3, x -> x.make(Everything.WIDE));
        dueBehind(fortyOne.andThen(x -> Check.renew(x, Everything.WIDE, "else{h=4;}")),
                "42 CASES in place of a text", -3, x -> x.make(Everything.WIDE));
    }

    /** Promise 18. */
    private static void wishes() {
        for (int p : NO_PROGRAM) {
            due("wish of PROGRAM " + p, -2, x -> x.wish(p, 0, 7, 1));
            due("wish of FIELD " + p, -2, x -> x.wish(Everything.BESIDE, 0, p, 1));
            due("wish for MADE ones of FIELD " + p, -2, x -> x.wish(Everything.WAITING, 0, p, 1));
        }
        for (int k : new int[] {-1, 3, Integer.MIN_VALUE, Integer.MAX_VALUE}) {
            due("wish in CASE " + k, -2, x -> x.wish(Everything.BESIDE, k, 7, 1));
        }
        for (int more : NO_EDGE) {
            due("wish for " + more, -2, x -> x.wish(Everything.BESIDE, 0, 7, more));
        }
        due("no such PUT", -2, x -> x.wish(Everything.BESIDE, 0, 0, 1));
        for (int p : new int[] {Everything.OLD, Everything.LIVE, Everything.BACK, Everything.RETIRED}) {
            due("wish, not BESIDE: " + p, -2, x -> x.wish(p, 0, 0, 1));
        }
    }

    /** Promise 19. */
    private static void casings() {
        for (int p : NO_PROGRAM) {
            due("casing of PROGRAM " + p, NOTHING, x -> x.casing(p, 0, 0, 0, 0));
            due("COEFFICIENT of FIELD " + p, NOTHING, x -> x.casing(Everything.BESIDE, 0, 2, 0, p));
        }
        due("casing without a NEW text", NOTHING, x -> x.casing(Everything.OLD, 0, 0, 0, 0));
        for (int k : new int[] {-1, 3, Integer.MIN_VALUE, Integer.MAX_VALUE}) {
            for (int what = 0; what <= 4; what++) {
                int told = what;
                due("CASE " + k + " what " + what, NOTHING, x -> x.casing(Everything.BESIDE, k, told, 0, 0));
            }
        }
        for (int j : new int[] {-1, 1, Integer.MIN_VALUE, Integer.MAX_VALUE}) {
            for (int what = 2; what <= 4; what++) {
                int told = what;
                due("PUT " + j + " what " + what, NOTHING, x -> x.casing(Everything.BESIDE, 0, told, j, 0));
            }
        }
        for (int what : new int[] {-1, 5, Integer.MIN_VALUE, Integer.MAX_VALUE}) {
            due("casing what " + what, NOTHING, x -> x.casing(Everything.BESIDE, 0, what, 0, 0));
        }
    }

    /** Promises 20, 21 and 22. */
    private static void unlikes() {
        for (int p : new int[] {-1, 8, Integer.MIN_VALUE, Integer.MAX_VALUE, Everything.OLD, Everything.NO_OLD_TEXT}) {
            due("unlike(" + p + ")", -2, x -> x.unlike(p));
            due("parts of PROGRAM " + p, -2, x -> x.parts(p, 0));
            due("where of PROGRAM " + p, -2, x -> x.where(p, 0));
        }
        for (int input : new int[] {-1, 4, Integer.MIN_VALUE, Integer.MAX_VALUE}) {
            due("parts from " + input, -2, x -> x.parts(Everything.BESIDE, input));
            due("where at " + input, -2, x -> x.where(Everything.BESIDE, input));
        }
    }

    /** Promise 23. */
    private static void nights() {
        for (int p : new int[] {-1, 8, Integer.MIN_VALUE, Integer.MAX_VALUE, Everything.OLD, Everything.LIVE,
                Everything.BACK, Everything.RETIRED, Everything.NO_OLD_TEXT}) {
            due("night of PROGRAM " + p, -2, x -> x.night(p, 0));
            due("night of PROGRAM " + p + ", SLOT with nothing", -2, x -> x.night(p, 3));
        }
        for (int slot : NO_SLOT) {
            due("night of SLOT " + slot, -2, x -> x.night(Everything.BESIDE, slot));
        }
        due("a SLOT with nothing", -6, x -> x.night(Everything.BESIDE, 3));
        due("5 is no INPUT", -7, x -> x.night(Everything.BESIDE, 1));
        for (long number : new long[] {-1, 4, 4096, 1L << 32, Long.MIN_VALUE, Long.MAX_VALUE}) {
            for (int i = 0; i < 3; i++) {
                int at = i;
                Consumer<CarriedWorks> row = x -> {
                    x.sheet(2, 3, 3);
                    x.write(2, 0, 1);
                    x.write(2, 1, 2);
                    x.write(2, 2, 3);
                    x.write(2, at, number);
                };
                dueBehind(row, number + " is no INPUT", -7, x -> x.night(Everything.BESIDE, 2));
            }
        }
    }

    /** Promises 25 and 26. */
    private static void heaps() {
        for (int h : new int[] {-1, 3, 59, 60, Integer.MIN_VALUE, Integer.MAX_VALUE}) {
            due("heap(" + h + ")", -1, x -> x.heap(h, 0));
            due("judge(" + h + ")", -2, x -> x.judge(h, 1));
        }
        for (int what : new int[] {-1, 7, Integer.MIN_VALUE, Integer.MAX_VALUE}) {
            due("heap what " + what, -1, x -> x.heap(0, what));
        }
        for (int word : new int[] {-1, 0, 3, Integer.MIN_VALUE, Integer.MAX_VALUE}) {
            due("judged " + word, -2, x -> x.judge(0, word));
            due("judged " + word, -2, x -> x.judge(2, word));
        }
    }

    /** Promise 27. */
    private static void calls() {
        for (int p : NO_PROGRAM) {
            due("PROGRAM " + p + " calls", -2, x -> x.calls(p, 0, 1));
            due("calls PROGRAM " + p, -2, x -> x.calls(0, p, 1));
        }
        for (int price : new int[] {-2, 1000, Integer.MIN_VALUE, Integer.MAX_VALUE}) {
            due("by the price " + price, -2, x -> x.calls(Everything.OLD, Everything.LIVE, price));
        }
        for (int p = 0; p < 8; p++) {
            int one = p;
            due("they are one", -2, x -> x.calls(one, one, 1));
            due("they are one", -2, x -> x.calls(one, one, -1));
        }
    }

    /** Promise 28. */
    private static void needs() {
        for (int p : NO_PROGRAM) {
            due("PROGRAM " + p + " needs", -2, x -> x.needs(p, 0));
            due("needs PROGRAM " + p, -2, x -> x.needs(0, p));
            due("PROGRAM " + p + " needs itself", -2, x -> x.needs(p, p));
        }
        for (int p = 0; p < 8; p++) {
            int one = p;
            due("itself", -5, x -> x.needs(one, one));
        }
        due("one that needs it", -5, x -> x.needs(Everything.OLD, Everything.WAITING));
        due("one that needs it by another", -5, x -> x.needs(Everything.OLD, Everything.NO_OLD_TEXT));
        due("one that needs it", -5, x -> x.needs(Everything.WAITING, Everything.NO_OLD_TEXT));
    }

    /** Promises 29 to 32. */
    private static void cutOvers() {
        for (int p : NO_PROGRAM) {
            due("live(" + p + ")", -2, x -> x.live(p));
            due("back(" + p + ")", -2, x -> x.back(p));
            due("retire(" + p + ")", -2, x -> x.retire(p));
            due("state(" + p + ")", -2, x -> x.state(p));
        }
        for (int p : new int[] {Everything.OLD, Everything.LIVE, Everything.RETIRED, Everything.WIDE}) {
            due("live, neither BESIDE nor BACK: " + p, -2, x -> x.live(p));
        }
        due("its latest NIGHT told 2", -5, x -> x.live(Everything.BESIDE));
        due("no NIGHT", -5, x -> x.live(Everything.NO_OLD_TEXT));
        due("it needs one that is OLD", -6, x -> x.live(Everything.WAITING));
        for (int p : new int[] {Everything.OLD, Everything.BESIDE, Everything.BACK, Everything.RETIRED}) {
            due("back, not LIVE: " + p, -2, x -> x.back(p));
            due("retire, not LIVE: " + p, -2, x -> x.retire(p));
        }
        due("one that needs it is RETIRED", -5, x -> x.back(Everything.LIVE));
        due("one that calls it is OLD", -5, x -> x.retire(Everything.LIVE));
    }

    /** Promises 33 and 34. */
    private static void plans() {
        for (int bits : new int[] {-1, 256, Integer.MIN_VALUE, Integer.MAX_VALUE}) {
            due("plan(" + bits + ")", -2, x -> x.plan(bits));
        }
        due("it needs one that is not in it", -1, x -> x.plan(1 << Everything.WAITING));
        due("the like by others", -1, x -> x.plan(1 << Everything.WAITING | 1 << Everything.NO_OLD_TEXT));
        for (int i : new int[] {-1, 2, 8, Integer.MIN_VALUE, Integer.MAX_VALUE}) {
            due("planned(" + i + ")", -1, x -> x.planned(i));
        }
    }

    /** Promises 35 to 38. */
    private static void rows() {
        for (int m : new int[] {-1, 0, 10, Integer.MIN_VALUE, Integer.MAX_VALUE}) {
            due("form m " + m, -2, x -> x.form(m, 0));
        }
        for (int k : NO_EDGE) {
            due("form k " + k, -2, x -> x.form(1, k));
        }
        for (int i : new int[] {-1, 20, Integer.MIN_VALUE, Integer.MAX_VALUE}) {
            due("put to ROW " + i, -2, x -> x.put(i, 0, 1));
            due("lead(" + i + ")", NOTHING, x -> x.lead(i));
            due("row(" + i + ")", NOTHING, x -> x.row(i, 0));
        }
        for (int side : new int[] {-1, 2, Integer.MIN_VALUE, Integer.MAX_VALUE}) {
            due("put at side " + side, -2, x -> x.put(2, side, 1));
        }
        for (int v : new int[] {-10000, 10000, Integer.MIN_VALUE, Integer.MAX_VALUE}) {
            due("put " + v, -2, x -> x.put(2, 0, v));
            due("put " + v + " at the other side", -2, x -> x.put(2, 1, v));
        }
        for (int what : new int[] {-1, 5, Integer.MIN_VALUE, Integer.MAX_VALUE}) {
            due("row what " + what, NOTHING, x -> x.row(1, what));
        }
    }

    /** Promises 40, 41 and 42. */
    private static void images() {
        for (int what : new int[] {-1, 11, Integer.MIN_VALUE, Integer.MAX_VALUE}) {
            due("count(" + what + ")", -1, x -> x.count(what));
        }
        for (int k : NO_IMAGE) {
            due("keep(" + k + ")", -2, x -> x.keep(k));
            due("restore(" + k + ")", -2, x -> x.restore(k));
        }
        due("IMAGE 1 has nothing", -6, x -> x.restore(1));
        due("IMAGE 2 has nothing", -6, x -> x.restore(2));
    }

    /** Promise 43. */
    private static void sheets() {
        for (int wrong : NO_SLOT) {
            due("sheet in SLOT " + wrong, -2, x -> x.sheet(wrong, 0, 1));
            due("sheet of WIDTH " + wrong, -2, x -> x.sheet(0, wrong, 1));
            due("sheet in SLOT " + wrong + ", n below 0", -2, x -> x.sheet(wrong, 0, -1));
            due("sheet of WIDTH " + wrong + ", n below 0", -2, x -> x.sheet(0, wrong, -1));
        }
        for (int slot = 0; slot < 4; slot++) {
            int at = slot;
            for (int n : new int[] {61, 62, Integer.MAX_VALUE}) {
                due("sheet of " + n, -2, x -> x.sheet(at, 1, n));
            }
            for (int n : new int[] {-1, -60, Integer.MIN_VALUE}) {
                due("sheet of " + n, -3, x -> x.sheet(at, 1, n));
            }
        }
    }

    /** Promise 44. */
    private static void writes() {
        for (int slot : NO_SLOT) {
            due("write to SLOT " + slot, -2, x -> x.write(slot, 0, 1));
            due("write to SLOT " + slot + ", no number", -2, x -> x.write(slot, -1, 1));
        }
        due("SLOT 3 has nothing", -6, x -> x.write(3, 0, 1));
        due("SLOT 3 has nothing, below 0", -6, x -> x.write(3, -1, 1));
        for (int i : new int[] {-1, 3, 60, Integer.MIN_VALUE, Integer.MAX_VALUE}) {
            due("number " + i, -7, x -> x.write(1, i, 1));
        }
        due("a row of none", -7, x -> x.write(2, 0, 1));
    }

    /** Promise 45. */
    private static void pastes() {
        for (int slot : NO_SLOT) {
            due("paste from SLOT " + slot, -2, x -> x.paste(slot, 0, 0, 0, 1));
            due("paste to SLOT " + slot, -2, x -> x.paste(0, 0, slot, 0, 1));
            due("paste from SLOT " + slot + " to nothing", -2, x -> x.paste(slot, -1, 3, -1, -1));
        }
        due("to nothing", -6, x -> x.paste(0, 0, 3, 0, 1));
        due("from nothing", -6, x -> x.paste(3, 0, 0, 0, 1));
        due("from nothing to nothing, none", -6, x -> x.paste(3, 0, 3, 0, 0));
        due("to nothing, beyond", -6, x -> x.paste(0, -1, 3, 99, -1));
        due("not of one WIDTH", -8, x -> x.paste(0, 0, 1, 0, 1));
        due("not of one WIDTH, none", -8, x -> x.paste(1, 0, 0, 0, 0));
        due("not of one WIDTH, beyond", -8, x -> x.paste(1, -1, 0, 99, -1));
        for (int i : new int[] {-1, 4, 5, Integer.MIN_VALUE, Integer.MAX_VALUE}) {
            due("from " + i, -7, x -> x.paste(0, i, 0, 0, 1));
            due("to " + i, -7, x -> x.paste(0, 0, 0, i, 1));
        }
        for (int n : new int[] {-1, 5, Integer.MIN_VALUE, Integer.MAX_VALUE}) {
            due("so many: " + n, -7, x -> x.paste(0, 0, 0, 0, n));
            due("so many from 1: " + n, -7, x -> x.paste(0, 1, 0, 1, n));
        }
        due("3 from 2", -7, x -> x.paste(0, 2, 0, 0, 3));
        due("3 to 2", -7, x -> x.paste(0, 0, 0, 2, 3));
        due("one to a row of none", -7, x -> x.paste(0, 0, 2, 0, 1));
        due("one from a row of none", -7, x -> x.paste(2, 0, 0, 0, 1));
        due("none from beyond", -7, x -> x.paste(0, 5, 0, 0, 0));
        due("none to beyond", -7, x -> x.paste(0, 0, 2, 1, 0));
        due("none, from below 0", -7, x -> x.paste(0, -1, 0, 0, 0));
        due("none, to below 0", -7, x -> x.paste(0, 0, 0, -1, 0));
    }

    /** Calls that tell something change nothing, either. */
    private static void onlyTold() {
        due("end(8) of 8", 8, x -> x.end(8));
        due("fault(0)", 2, x -> x.fault(0));
        due("fault(1)", 7, x -> x.fault(1));
        due("field(3)", 0, x -> x.field(3));
        due("did()", 3, CarriedWorks::did);
        due("way(0, 0)", 4, x -> x.way(0, 0, 0));
        due("rule(0, 2, 0)", 2, x -> x.rule(0, 2, 0));
        due("dead()", 8, CarriedWorks::dead);
        due("kinds()", 2, CarriedWorks::kinds);
        due("casing", 9, x -> x.casing(Everything.BESIDE, 1, 3, 0, 0));
        due("unlike", 3, x -> x.unlike(Everything.BESIDE));
        due("parts", 1, x -> x.parts(Everything.BESIDE, 0));
        due("where", 128 | 64, x -> x.where(Everything.BESIDE, 2));
        due("heaps", 3, CarriedWorks::heaps);
        due("heap", 2, x -> x.heap(0, 4));
        due("state", 3, x -> x.state(Everything.BACK));
        due("planned", Everything.WAITING, x -> x.planned(1));
        due("row", 2, x -> x.row(2, 3));
        due("check", 3, CarriedWorks::check);
        due("count", 1, x -> x.count(2));
        due("what was told again", 5, x -> x.calls(Everything.OLD, Everything.LIVE, 5));
        due("needs what it needs", 0, x -> x.needs(Everything.WAITING, Everything.OLD));
        due("judged as it was", 2, x -> x.judge(0, 2));
        due("paste of none", 0, x -> x.paste(0, 4, 2, 0, 0));
        due("paste onto itself", 0, x -> x.paste(0, 0, 0, 0, 4));
        due("restore and all that came behind it", 0, x -> {
            int restored = x.restore(0);
            x.judge(1, 1);
            x.night(Everything.BESIDE, 0);
            x.put(3, 0, 1);
            x.calls(Everything.WIDE, Everything.WAITING, 3);
            x.needs(Everything.WIDE, Everything.BESIDE);
            return restored;
        });
    }
}
