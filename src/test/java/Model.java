import java.io.ByteArrayInputStream;
import java.io.ByteArrayOutputStream;
import java.io.IOException;
import java.io.ObjectInputStream;
import java.io.ObjectOutputStream;
import java.io.Serializable;
import java.util.ArrayList;
import java.util.Arrays;
import java.util.HashSet;
import java.util.LinkedHashMap;
import java.util.List;
import java.util.Map;
import java.util.Set;

/** The document once more, written apart from the class with the whole Java library: slow and plain. */
final class Model {
    static final int NOTHING = -2_000_000_000;

    static final class Bad extends RuntimeException {
        private static final long serialVersionUID = 1L;
        final int code;
        final int place;

        Bad(int code, int place) {
            this.code = code;
            this.place = place;
        }
    }

    static final class Sum implements Serializable {
        private static final long serialVersionUID = 1L;
        int[] times = new int[8];
        int alone;
        boolean goesRound;

        long of(int[] fields) {
            long value = alone;
            for (int f = 0; f < 8; f++) {
                value += (long) times[f] * fields[f];
                if (goesRound) {
                    value = (int) value;
                }
            }
            return value;
        }
    }

    static final class Line implements Serializable {
        private static final long serialVersionUID = 1L;
        int number;
        String act;
        int field;
        char op;
        int limit;
        int target;
        Sum sum;
    }

    static final class Test implements Serializable {
        private static final long serialVersionUID = 1L;
        Sum sum;
        char op;
        int limit;
        boolean so = true;

        boolean holds(int[] fields) {
            return compare(sum.of(fields), op, limit) == so;
        }
    }

    static final class Case implements Serializable {
        private static final long serialVersionUID = 1L;
        List<Test> tests = new ArrayList<>();
        LinkedHashMap<Integer, Sum> puts = new LinkedHashMap<>();
    }

    static final class Prog implements Serializable {
        private static final long serialVersionUID = 1L;
        int state;
        Integer night;
        List<Line> old;
        List<Case> anew;
        int[][] spans = new int[8][];

        List<Integer> spanned() {
            List<Integer> letters = new ArrayList<>();
            for (int f = 0; f < 8; f++) {
                if (spans[f] != null) {
                    letters.add(f);
                }
            }
            return letters;
        }

        List<int[]> inputs() {
            List<int[]> all = new ArrayList<>();
            all.add(new int[8]);
            for (int f : spanned()) {
                List<int[]> more = new ArrayList<>();
                for (int[] begun : all) {
                    for (int v = spans[f][0]; v <= spans[f][1]; v++) {
                        int[] next = begun.clone();
                        next[f] = v;
                        more.add(next);
                    }
                }
                all = more;
            }
            return all;
        }
    }

    static final class State implements Serializable {
        private static final long serialVersionUID = 1L;
        Prog[] progs = new Prog[8];
        int[][] price = new int[8][8];
        boolean[][] need = new boolean[8][8];
        LinkedHashMap<List<Integer>, int[]> heaps = new LinkedHashMap<>();
        int nights;
        int wishes;
        int m = 1;
        int k;
        int[][] rows = new int[20][5];

        State() {
            for (int p = 0; p < 8; p++) {
                progs[p] = new Prog();
                Arrays.fill(price[p], -1);
            }
        }
    }

    static final class Ran {
        int[] fields;
        int stop;
        int chosen = -1;
        List<Integer> lines = new ArrayList<>();
        List<Boolean> held = new ArrayList<>();
    }

    static final class Way {
        int inputs;
        int least;
        int stop;
        List<Integer> numbers = new ArrayList<>();
        Sum[] made;
        Case cased = new Case();
    }

    private State s = new State();
    private final byte[][] images = new byte[3][];
    private String tape = "";
    private int faultCode;
    private int faultPlace = -1;
    private int[] lastFields = new int[8];
    private int lastDid = -1;
    private List<Way> found;
    private List<Integer> foundLetters;
    private int foundDead;
    private List<Integer> order = new ArrayList<>();
    private final long[][] slots = new long[4][];
    private final int[] widths = new int[4];

    // Texts.

    private final List<String> tokens = new ArrayList<>();
    private final List<Integer> places = new ArrayList<>();
    private int at;

    private void split() {
        tokens.clear();
        places.clear();
        at = 0;
        java.util.regex.Matcher next = java.util.regex.Pattern.compile("[a-z]+|[0-9]+|[^ \n]", java.util.regex.Pattern.DOTALL)
                .matcher(tape);
        while (next.find()) {
            tokens.add(next.group());
            places.add(next.start());
        }
        tokens.add("");
        places.add(tape.length());
    }

    private String now() {
        return tokens.get(at);
    }

    private Bad bad(int code) {
        return new Bad(code, places.get(at));
    }

    private void expect(String token) {
        if (!now().equals(token)) {
            throw bad(1);
        }
        at++;
    }

    private boolean isNumber() {
        return now().matches("[0-9]+");
    }

    private int number(int low, int high) {
        if (!isNumber()) {
            throw bad(1);
        }
        java.math.BigInteger n = new java.math.BigInteger(now());
        if (n.compareTo(java.math.BigInteger.valueOf(low)) < 0 || n.compareTo(java.math.BigInteger.valueOf(high)) > 0) {
            throw bad(2);
        }
        at++;
        return n.intValue();
    }

    private int letter() {
        if (!now().matches("[a-h]")) {
            throw bad(1);
        }
        return tokens.get(at++).charAt(0) - 'a';
    }

    private char op() {
        if (!now().matches("[<>=]")) {
            throw bad(1);
        }
        return tokens.get(at++).charAt(0);
    }

    private void refuseIfItMayStand() {
        if (isNumber()) {
            number(0, 9999);
            at--;
            throw bad(3);
        }
        letter();
        at--;
        throw bad(3);
    }

    private Sum sum() {
        Sum sum = new Sum();
        boolean minus = now().equals("-");
        if (minus) {
            at++;
        }
        for (int terms = 1; ; terms++) {
            if (terms == 7) {
                refuseIfItMayStand();
            }
            int times = 1;
            boolean plain = false;
            if (isNumber()) {
                times = number(0, 9999);
                plain = !now().equals("*");
                if (!plain) {
                    at++;
                }
            }
            if (minus) {
                times = -times;
            }
            if (plain) {
                sum.alone += times;
            } else {
                sum.times[letter()] += times;
            }
            if (!now().equals("+") && !now().equals("-")) {
                return sum;
            }
            minus = tokens.get(at++).equals("-");
        }
    }

    private List<Line> readOld() {
        List<Line> lines = new ArrayList<>();
        int above = 0;
        while (!now().isEmpty()) {
            Line line = new Line();
            line.number = number(above + 1, 999);
            if (lines.size() == 24) {
                at--;
                throw bad(3);
            }
            above = line.number;
            expect(":");
            line.act = now();
            switch (line.act) {
                case "set":
                    at++;
                    line.field = letter();
                    expect("=");
                    line.sum = sum();
                    break;
                case "if":
                    at++;
                    line.field = letter();
                    line.op = op();
                    line.limit = number(0, 9999);
                    expect("go");
                    line.target = number(0, 9999);
                    break;
                case "go":
                    at++;
                    line.target = number(0, 9999);
                    break;
                default:
                    expect("stop");
            }
            expect(";");
            lines.add(line);
        }
        return lines;
    }

    private List<Case> readNew() {
        List<Case> cases = new ArrayList<>();
        while (!now().isEmpty()) {
            boolean isElse = now().equals("else");
            if (!isElse && !now().equals("when")) {
                throw bad(1);
            }
            if (cases.size() == 12) {
                throw bad(3);
            }
            at++;
            Case c = new Case();
            cases.add(c);
            if (!isElse) {
                tests(c);
            }
            expect("{");
            while (!now().equals("}")) {
                int f = letter();
                if (c.puts.containsKey(f)) {
                    at--;
                    throw bad(2);
                }
                expect("=");
                c.puts.put(f, sum());
                expect(";");
            }
            at++;
            if (isElse && !now().isEmpty()) {
                throw bad(1);
            }
        }
        return cases;
    }

    private void tests(Case c) {
        while (true) {
            if (c.tests.size() == 4) {
                if (now().equals("-")) {
                    throw bad(3);
                }
                refuseIfItMayStand();
            }
            Test t = new Test();
            t.sum = sum();
            t.op = op();
            t.limit = number(0, 9999);
            c.tests.add(t);
            if (!now().equals("and")) {
                return;
            }
            at++;
        }
    }

    static boolean compare(long value, char op, int limit) {
        return op == '<' ? value < limit : op == '>' ? value > limit : value == limit;
    }

    // Runs.

    private static Ran ranOld(Prog p, int[] begun) {
        Ran r = new Ran();
        r.fields = begun.clone();
        int line = 0;
        while (true) {
            if (line == p.old.size()) {
                r.stop = 0;
                return r;
            }
            if (r.lines.size() == 100) {
                r.stop = 4;
                return r;
            }
            Line l = p.old.get(line);
            r.lines.add(line);
            boolean held = l.act.equals("go") || l.act.equals("if") && compare(r.fields[l.field], l.op, l.limit);
            r.held.add(held);
            line++;
            if (l.act.equals("stop")) {
                r.stop = 0;
                return r;
            }
            if (l.act.equals("set")) {
                long value = l.sum.of(r.fields);
                if (Math.abs(value) > 9999) {
                    r.stop = 2;
                    return r;
                }
                r.fields[l.field] = (int) value;
            }
            if (held) {
                line = -1;
                for (int i = 0; i < p.old.size(); i++) {
                    if (p.old.get(i).number == l.target) {
                        line = i;
                    }
                }
                if (line < 0) {
                    r.stop = 3;
                    return r;
                }
            }
        }
    }

    private static Ran ranNew(Prog p, int[] begun) {
        Ran r = new Ran();
        r.fields = begun.clone();
        for (int c = 0; c < p.anew.size(); c++) {
            if (p.anew.get(c).tests.stream().allMatch(t -> t.holds(begun))) {
                r.chosen = c;
                int[] then = begun.clone();
                for (Map.Entry<Integer, Sum> put : p.anew.get(c).puts.entrySet()) {
                    long value = put.getValue().of(begun);
                    if (value < -9999 || value > 9999) {
                        r.stop = 2;
                        return r;
                    }
                    then[put.getKey()] = (int) value;
                }
                r.fields = then;
                return r;
            }
        }
        r.stop = 5;
        return r;
    }

    private static int unlikeBits(Prog p, int[] begun) {
        Ran a = ranOld(p, begun);
        Ran b = ranNew(p, begun);
        int bits = a.stop != b.stop ? 256 : 0;
        for (int f = 0; f < 8; f++) {
            bits += a.fields[f] != b.fields[f] ? 1 << f : 0;
        }
        return bits;
    }

    private static Sum letters(int f, Prog p) {
        Sum sum = new Sum();
        sum.goesRound = true;
        sum.times[f] = p.spans[f] != null ? 1 : 0;
        return sum;
    }

    private static Sum composed(Sum outer, Sum[] inner) {
        Sum sum = new Sum();
        sum.goesRound = true;
        sum.alone = outer.alone;
        for (int f = 0; f < 8; f++) {
            for (int g = 0; g < 8; g++) {
                sum.times[g] += outer.times[f] * inner[f].times[g];
            }
            sum.alone += outer.times[f] * inner[f].alone;
        }
        return sum;
    }

    /** All WAYS, however many. */
    private static List<Way> allWays(Prog p) {
        Map<String, Way> ways = new LinkedHashMap<>();
        List<int[]> inputs = p.inputs();
        for (int i = 0; i < inputs.size(); i++) {
            Ran r = ranOld(p, inputs.get(i));
            Way w = ways.get(r.stop + " " + r.lines);
            if (w == null) {
                w = wayOf(p, r, i);
                ways.put(r.stop + " " + r.lines, w);
            }
            w.inputs++;
        }
        return new ArrayList<>(ways.values());
    }

    private static Way wayOf(Prog p, Ran r, int least) {
        Way w = new Way();
        w.least = least;
        w.stop = r.stop;
        w.made = new Sum[8];
        for (int f = 0; f < 8; f++) {
            w.made[f] = letters(f, p);
        }
        for (int i = 0; i < r.lines.size(); i++) {
            Line l = p.old.get(r.lines.get(i));
            w.numbers.add(l.number);
            boolean stops = r.stop == 2 && i == r.lines.size() - 1;
            if (l.act.equals("set") && !stops) {
                w.made[l.field] = composed(l.sum, w.made);
            }
            if (l.act.equals("if")) {
                Test t = new Test();
                t.sum = w.made[l.field];
                t.op = l.op;
                t.limit = l.limit;
                t.so = r.held.get(i);
                w.cased.tests.add(t);
            }
        }
        for (int f = 0; f < 8; f++) {
            w.cased.puts.put(f, composed(w.made[f], identity()));
        }
        return w;
    }

    private static Sum[] identity() {
        Sum[] all = new Sum[8];
        for (int f = 0; f < 8; f++) {
            all[f] = new Sum();
            all[f].times[f] = 1;
        }
        return all;
    }

    // The face.

    private Prog prog(int program) {
        return program < 0 || program > 7 ? null : s.progs[program];
    }

    private static boolean within(int v, int low, int high) {
        return low <= v && v <= high;
    }

    private static int[] begun(Prog p, int input) {
        List<int[]> inputs = p.inputs();
        return within(input, 0, inputs.size() - 1) ? inputs.get(input) : null;
    }

    int feed(int... five) {
        if (tape.length() + 20 > 600) {
            return -1;
        }
        StringBuilder more = new StringBuilder(tape);
        for (int v : five) {
            for (int b = 3; b >= 0; b--) {
                more.append((char) (v >>> 8 * b & 255));
            }
        }
        tape = more.toString();
        return tape.length();
    }

    int end(int n) {
        if (!within(n, 0, tape.length())) {
            return -1;
        }
        tape = tape.substring(0, n);
        return n;
    }

    int old(int program) {
        Prog p = prog(program);
        if (p == null || p.state != 0) {
            return -2;
        }
        faultCode = 0;
        faultPlace = -1;
        split();
        tape = "";
        try {
            p.old = readOld();
        } catch (Bad b) {
            faultCode = b.code;
            faultPlace = b.place;
            return -4;
        }
        p.night = null;
        return p.old.size();
    }

    int renew(int program) {
        Prog p = prog(program);
        if (p == null || p.state > 1) {
            return -2;
        }
        faultCode = 0;
        faultPlace = -1;
        split();
        tape = "";
        try {
            p.anew = readNew();
        } catch (Bad b) {
            faultCode = b.code;
            faultPlace = b.place;
            return -4;
        }
        p.night = null;
        p.state = 1;
        return p.anew.size();
    }

    int fault(int what) {
        return what == 0 ? faultCode : what == 1 ? faultPlace : -1;
    }

    int span(int program, int field, int low, int high) {
        Prog p = prog(program);
        if (p == null || p.state > 1 || !within(field, 0, 7) || !within(low, -99, 99) || !within(high, -99, 99)) {
            return -2;
        }
        int[] before = p.spans[field];
        p.spans[field] = low > high ? null : new int[] {low, high};
        long inputs = 1;
        for (int f : p.spanned()) {
            inputs *= p.spans[f][1] - p.spans[f][0] + 1;
        }
        if (p.spanned().size() > 3 || inputs > 4096) {
            p.spans[field] = before;
            return -3;
        }
        p.night = null;
        return (int) inputs;
    }

    int run(int program, int input) {
        Prog p = prog(program);
        if (p == null || p.old == null || begun(p, input) == null) {
            return -2;
        }
        Ran r = ranOld(p, begun(p, input));
        lastFields = r.fields;
        lastDid = r.lines.size();
        return r.stop;
    }

    int runNew(int program, int input) {
        Prog p = prog(program);
        if (p == null || p.anew == null || begun(p, input) == null) {
            return -2;
        }
        Ran r = ranNew(p, begun(p, input));
        lastFields = r.fields;
        lastDid = r.chosen;
        return r.stop;
    }

    int field(int field) {
        return within(field, 0, 7) ? lastFields[field] : -1;
    }

    int did() {
        return lastDid;
    }

    int ways(int program) {
        Prog p = prog(program);
        if (p == null || p.old == null) {
            return -2;
        }
        List<Way> ways = allWays(p);
        if (ways.size() > 200) {
            return -3;
        }
        found = ways;
        foundLetters = p.spanned();
        foundDead = 0;
        for (int i = 0; i < p.old.size(); i++) {
            int number = p.old.get(i).number;
            if (ways.stream().noneMatch(w -> w.numbers.contains(number))) {
                foundDead |= 1 << i;
            }
        }
        return ways.size();
    }

    int way(int w, int what, int i) {
        if (found == null || !within(w, 0, found.size() - 1)) {
            return -1;
        }
        Way way = found.get(w);
        switch (what) {
            case 0: return way.inputs;
            case 1: return way.least;
            case 2: return way.stop;
            case 3: return way.numbers.size();
            case 4: return within(i, 0, way.numbers.size() - 1) ? way.numbers.get(i) : -1;
            default: return -1;
        }
    }

    int rule(int w, int field, int i) {
        if (found == null || !within(w, 0, found.size() - 1) || !within(field, 0, 7)
                || !within(i, -1, foundLetters.size() - 1)) {
            return NOTHING;
        }
        Sum made = found.get(w).made[field];
        return i == -1 ? made.alone : made.times[foundLetters.get(i)];
    }

    int dead() {
        return foundDead;
    }

    int kinds() {
        Set<String> kinds = new HashSet<>();
        if (found != null) {
            for (Way w : found) {
                StringBuilder kind = new StringBuilder("" + w.stop);
                for (Sum made : w.made) {
                    kind.append(Arrays.toString(made.times)).append(made.alone);
                }
                kinds.add(kind.toString());
            }
        }
        return kinds.size();
    }

    int make(int program) {
        Prog p = prog(program);
        if (p == null || p.old == null || p.state > 1) {
            return -2;
        }
        List<Way> ways = allWays(p);
        List<Case> cases = new ArrayList<>();
        for (Way w : ways) {
            if (w.stop == 0) {
                cases.add(w.cased);
            }
        }
        if (cases.size() > 40 || ways.size() > 200) {
            return -3;
        }
        p.anew = cases;
        p.state = 1;
        p.night = null;
        return cases.size();
    }

    int wish(int program, int casing, int field, int more) {
        Prog p = prog(program);
        if (p == null || p.state != 1 || !within(casing, 0, p.anew.size() - 1) || !within(more, -99, 99)
                || !p.anew.get(casing).puts.containsKey(field)) {
            return -2;
        }
        p.anew.get(casing).puts.get(field).alone += more;
        p.night = null;
        return ++s.wishes;
    }

    int casing(int program, int casing, int what, int j, int i) {
        Prog p = prog(program);
        if (p == null || p.anew == null || !within(casing, 0, p.anew.size() - 1)) {
            return NOTHING;
        }
        Case c = p.anew.get(casing);
        if (what == 0) {
            return c.tests.size();
        }
        if (what == 1) {
            return c.puts.size();
        }
        if (!within(what, 2, 4) || !within(j, 0, c.puts.size() - 1) || what == 2 && !within(i, 0, 7)) {
            return NOTHING;
        }
        int letter = new ArrayList<>(c.puts.keySet()).get(j);
        Sum sum = c.puts.get(letter);
        return what == 2 ? sum.times[i] : what == 3 ? sum.alone : letter;
    }

    private boolean hasBoth(Prog p) {
        return p != null && p.old != null && p.anew != null;
    }

    int unlike(int program) {
        Prog p = prog(program);
        return hasBoth(p) ? (int) p.inputs().stream().filter(b -> unlikeBits(p, b) != 0).count() : -2;
    }

    int parts(int program, int from) {
        Prog p = prog(program);
        if (!hasBoth(p) || begun(p, from) == null) {
            return -2;
        }
        List<int[]> inputs = p.inputs();
        for (int i = from; i < inputs.size(); i++) {
            if (unlikeBits(p, inputs.get(i)) != 0) {
                return i;
            }
        }
        return -1;
    }

    int where(int program, int input) {
        Prog p = prog(program);
        return !hasBoth(p) || begun(p, input) == null ? -2 : unlikeBits(p, begun(p, input));
    }

    int night(int program, int slot) {
        Prog p = prog(program);
        if (p == null || p.state != 1 || p.old == null || !within(slot, 0, 3)) {
            return -2;
        }
        if (slots[slot] == null) {
            return -6;
        }
        List<int[]> inputs = p.inputs();
        for (long v : slots[slot]) {
            if (v < 0 || v >= inputs.size()) {
                return -7;
            }
        }
        int told = 0;
        for (long v : slots[slot]) {
            int[] begun = inputs.get((int) v);
            int bits = unlikeBits(p, begun);
            if (bits != 0) {
                List<Integer> done = ranOld(p, begun).lines;
                int line = done.isEmpty() ? -1 : p.old.get(done.get(done.size() - 1)).number;
                List<Integer> key = List.of(program, line, ranNew(p, begun).chosen, bits);
                if (!s.heaps.containsKey(key) && s.heaps.size() < 60) {
                    s.heaps.put(key, new int[] {0, 0, (int) v});
                }
                int[] heap = s.heaps.get(key);
                if (heap != null) {
                    heap[0]++;
                }
                told += heap != null && heap[1] == 2 ? 0 : 1;
            }
        }
        p.night = told;
        s.nights++;
        return told;
    }

    int heaps() {
        return s.heaps.size();
    }

    int heap(int h, int what) {
        if (!within(h, 0, s.heaps.size() - 1) || !within(what, 0, 6)) {
            return -1;
        }
        List<Integer> key = new ArrayList<>(s.heaps.keySet()).get(h);
        return what < 4 ? key.get(what) : s.heaps.get(key)[what - 4];
    }

    int judge(int h, int word) {
        if (!within(h, 0, s.heaps.size() - 1) || !within(word, 1, 2)) {
            return -2;
        }
        int[] heap = new ArrayList<>(s.heaps.values()).get(h);
        int before = heap[1];
        heap[1] = word;
        return before;
    }

    int calls(int program, int other, int price) {
        if (prog(program) == null || prog(other) == null || program == other || !within(price, -1, 999)) {
            return -2;
        }
        int before = s.price[program][other];
        s.price[program][other] = price;
        return before;
    }

    private boolean needsByAny(int program, int other) {
        for (int q = 0; q < 8; q++) {
            if (s.need[program][q] && (q == other || needsByAny(q, other))) {
                return true;
            }
        }
        return false;
    }

    int needs(int program, int other) {
        if (prog(program) == null || prog(other) == null) {
            return -2;
        }
        if (program == other || needsByAny(other, program)) {
            return -5;
        }
        s.need[program][other] = true;
        return 0;
    }

    private boolean over(int program) {
        return s.progs[program].state == 2 || s.progs[program].state == 4;
    }

    int live(int program) {
        Prog p = prog(program);
        if (p == null || p.state != 1 && !(p.state == 3 && !p.anew.isEmpty())) {
            return -2;
        }
        if (p.night == null || p.night != 0) {
            return -5;
        }
        for (int q = 0; q < 8; q++) {
            if (s.need[program][q] && !over(q)) {
                return -6;
            }
        }
        p.state = 2;
        return 0;
    }

    int back(int program) {
        if (prog(program) == null || prog(program).state != 2) {
            return -2;
        }
        for (int q = 0; q < 8; q++) {
            if (needsByAny(q, program) && s.progs[q].state == 4) {
                return -5;
            }
        }
        int went = 0;
        for (int q = 0; q < 8; q++) {
            if ((q == program || needsByAny(q, program)) && s.progs[q].state == 2) {
                s.progs[q].state = 3;
                went++;
            }
        }
        return went;
    }

    int retire(int program) {
        if (prog(program) == null || prog(program).state != 2) {
            return -2;
        }
        for (int q = 0; q < 8; q++) {
            if (s.price[q][program] >= 0 && !over(q)) {
                return -5;
            }
        }
        s.progs[program].state = 4;
        return 0;
    }

    int state(int program) {
        return prog(program) == null ? -2 : prog(program).state;
    }

    int plan(int bits) {
        if (!within(bits, 0, 255)) {
            return -2;
        }
        List<Integer> set = new ArrayList<>();
        Set<Integer> over = new HashSet<>();
        for (int p = 0; p < 8; p++) {
            if (over(p)) {
                over.add(p);
            } else if ((bits >> p) % 2 == 1) {
                set.add(p);
            }
        }
        for (int p : set) {
            for (int q = 0; q < 8; q++) {
                if (s.need[p][q] && !over.contains(q) && !set.contains(q)) {
                    return -1;
                }
            }
        }
        best = Integer.MAX_VALUE;
        tryOrders(set, over, new ArrayList<>(), 0);
        return best;
    }

    private int best;

    /** Orders come first by PROGRAMS, so only a lower price takes the place of an earlier one. */
    private void tryOrders(List<Integer> left, Set<Integer> over, List<Integer> done, int price) {
        if (left.isEmpty()) {
            if (price < best) {
                best = price;
                order = new ArrayList<>(done);
            }
            return;
        }
        for (int p : left) {
            boolean may = true;
            for (int q = 0; q < 8; q++) {
                may &= !s.need[p][q] || over.contains(q);
            }
            if (may) {
                List<Integer> rest = new ArrayList<>(left);
                rest.remove(Integer.valueOf(p));
                Set<Integer> then = new HashSet<>(over);
                then.add(p);
                done.add(p);
                tryOrders(rest, then, done, price + nightPrice(then));
                done.remove(done.size() - 1);
            }
        }
    }

    private int nightPrice(Set<Integer> over) {
        int price = 0;
        for (int p = 0; p < 8; p++) {
            for (int q = 0; q < 8; q++) {
                if (s.price[p][q] > 0 && over.contains(p) != over.contains(q)) {
                    price += s.price[p][q];
                }
            }
        }
        return price;
    }

    int planned(int i) {
        return within(i, 0, order.size() - 1) ? order.get(i) : -1;
    }

    int form(int m, int k) {
        if (!within(m, 1, 9) || !within(k, -99, 99)) {
            return -2;
        }
        s.m = m;
        s.k = k;
        for (int i = 0; i < 20; i++) {
            lead(i);
        }
        return 0;
    }

    int put(int i, int side, int v) {
        if (!within(i, 0, 19) || !within(side, 0, 1) || !within(v, -9999, 9999)) {
            return -2;
        }
        int[] row = s.rows[i];
        row[side] = v;
        row[3] = row[2] == side ? row[3] + 1 : 1;
        row[2] = side;
        return row[3];
    }

    int lead(int i) {
        if (!within(i, 0, 19)) {
            return NOTHING;
        }
        int[] row = s.rows[i];
        row[3] = 0;
        row[4] = 0;
        if (row[2] == 0) {
            row[1] = row[0] * s.m + s.k;
            return row[1];
        }
        row[0] = (int) Math.floor((row[1] - s.k) / (double) s.m);
        row[4] = row[1] - s.k - row[0] * s.m;
        return row[0];
    }

    int row(int i, int what) {
        return within(i, 0, 19) && within(what, 0, 4) ? s.rows[i][what] : NOTHING;
    }

    int check() {
        int behind = 0;
        int lost = 0;
        for (int[] row : s.rows) {
            behind += row[3] > 0 ? 1 : 0;
            lost += row[1] != row[0] * s.m + s.k ? 1 : 0;
        }
        return behind > 0 ? behind : lost > 0 ? -3 : -1;
    }

    int count(int what) {
        int sum = 0;
        for (Prog p : s.progs) {
            switch (what) {
                case 0: sum += p.old == null ? 0 : p.old.size(); break;
                case 1: sum += p.anew == null ? 0 : p.anew.size(); break;
                case 2: sum += p.state == 2 ? 1 : 0; break;
                case 3: sum += p.state == 4 ? 1 : 0; break;
                case 4: sum += p.state == 1 ? 1 : 0; break;
                default: break;
            }
        }
        switch (what) {
            case 0: case 1: case 2: case 3: case 4: return sum;
            case 5: return tape.length();
            case 6: return s.nights;
            case 7: return s.wishes;
            case 8: return (int) s.heaps.values().stream().filter(h -> h[1] == 0).count();
            case 9: return (int) Arrays.stream(slots).filter(r -> r != null).count();
            case 10: return Arrays.stream(s.rows).mapToInt(r -> r[4]).sum();
            default: return -1;
        }
    }

    int keep(int k) {
        if (!within(k, 0, 2)) {
            return -2;
        }
        try {
            ByteArrayOutputStream bytes = new ByteArrayOutputStream();
            ObjectOutputStream out = new ObjectOutputStream(bytes);
            out.writeObject(s);
            out.flush();
            images[k] = bytes.toByteArray();
        } catch (IOException e) {
            throw new IllegalStateException(e);
        }
        return 0;
    }

    int restore(int k) {
        if (!within(k, 0, 2)) {
            return -2;
        }
        if (images[k] == null) {
            return -6;
        }
        try {
            s = (State) new ObjectInputStream(new ByteArrayInputStream(images[k])).readObject();
        } catch (IOException | ClassNotFoundException e) {
            throw new IllegalStateException(e);
        }
        return 0;
    }

    int sheet(int slot, int width, int n) {
        if (!within(slot, 0, 3) || !within(width, 0, 3) || n > 60) {
            return -2;
        }
        if (n < 0) {
            return -3;
        }
        slots[slot] = new long[n];
        widths[slot] = width;
        return 0;
    }

    int write(int slot, int i, long v) {
        if (!within(slot, 0, 3)) {
            return -2;
        }
        if (slots[slot] == null) {
            return -6;
        }
        if (!within(i, 0, slots[slot].length - 1)) {
            return -7;
        }
        slots[slot][i] = widths[slot] == 0 ? (byte) v : widths[slot] == 1 ? (short) v : widths[slot] == 2 ? (int) v : v;
        return 0;
    }

    int paste(int slot, int i, int to, int k, int n) {
        if (!within(slot, 0, 3) || !within(to, 0, 3)) {
            return -2;
        }
        if (slots[slot] == null || slots[to] == null) {
            return -6;
        }
        if (widths[slot] != widths[to]) {
            return -8;
        }
        if (i < 0 || k < 0 || n < 0 || (long) i + n > slots[slot].length || (long) k + n > slots[to].length) {
            return -7;
        }
        long[] were = slots[slot].clone();
        for (int j = 0; j < n; j++) {
            slots[to][k + j] = were[i + j];
        }
        return 0;
    }
}
