import java.lang.management.ManagementFactory;
import java.lang.reflect.Array;
import java.lang.reflect.Field;
import java.lang.reflect.Method;
import java.lang.reflect.Modifier;
import java.util.ArrayDeque;
import java.util.Arrays;
import java.util.Collections;
import java.util.Deque;
import java.util.HashSet;
import java.util.IdentityHashMap;
import java.util.Set;

/** A run's room: what an object is made of, and that no call on it makes anything, not even the first. */
public final class RoomTest {
    private static final Check c = new Check("room");
    private static final com.sun.management.ThreadMXBean THREADS =
            (com.sun.management.ThreadMXBean) ManagementFactory.getThreadMXBean();

    /** 24 LINES, each a SUM of six FIELDS. */
    private static final String LONGEST_OLD = longestOld();
    /** 40 WAYS, the last one of 100 ACTS; each FIELD is made of three SPANS and something alone. */
    private static final String FULLEST = fullest();
    /** 12 CASES, as many TESTS and PUTS as 600 bytes have room for. */
    private static final String LONGEST_NEW = longestNew();
    /** As many WAYS as there are. */
    private static final String ROUNDS = "1:if a<1 go 4;2:set a=a-1;3:go 1;4:if b<1 go 7;5:set b=b-1;6:go 4;7:stop;";

    private interface Call {
        int on(CarriedWorks x);
    }

    private static final Set<String> MEASURED = new HashSet<>();
    private static int answered;
    private static Object escaped;

    public static void main(String[] args) {
        measuresWell();
        objectIsSmall();
        firstCalls();
        longestTexts();
        fullestImages();
        mostWays();
        cutOver();
        refusedCalls();
        wholeFace();
        dearestRun();
        manyRounds();
        c.close();
    }

    private static String longestOld() {
        StringBuilder text = new StringBuilder();
        for (int line = 1; line <= 24; line++) {
            text.append(line).append(":set ").append((char) ('a' + line % 8)).append("=a-2*b+c-d+e-f;");
        }
        return filled(text);
    }

    private static String fullest() {
        StringBuilder text = new StringBuilder("1:set a=a-1;2:if a>0 go 1;3:set d=a+b+c-1;");
        for (int f = 4; f <= 10; f++) {
            text.append(f).append(":set ").append((char) ('a' + "4567120".charAt(f - 4) - '0')).append("=d;");
        }
        for (int line = 11; line <= 22; line++) {
            text.append(line).append(":if a>999 go 1;");
        }
        return filled(text);
    }

    private static String longestNew() {
        StringBuilder text = new StringBuilder();
        for (int i = 0; i < 12; i++) {
            text.append("when a<1and b<1and c<1and d<1{a=b;b=c;c=a+b+c;}");
        }
        return filled(text);
    }

    private static String filled(StringBuilder text) {
        while (text.length() < 600) {
            text.append(' ');
        }
        return text.toString();
    }

    private static long made(CarriedWorks x, Call call) {
        long before = THREADS.getCurrentThreadAllocatedBytes();
        answered = call.on(x);
        return THREADS.getCurrentThreadAllocatedBytes() - before;
    }

    private static void makesNothing(String name, CarriedWorks x, Call call) {
        MEASURED.add(name);
        c.due(name + ": bytes that are made", made(x, call), 0);
    }

    private static void makesNothing(String name, CarriedWorks x, Call call, int want) {
        makesNothing(name, x, call);
        c.due(name, answered, want);
    }

    private static void tape(CarriedWorks x, String text) {
        makesNothing("end", x, y -> y.end(0));
        for (int at = 0; at < text.length(); at += 20) {
            int[] v = new int[5];
            for (int i = 0; i < 20; i++) {
                v[i / 4] = v[i / 4] << 8 | (at + i < text.length() ? text.charAt(at + i) : ' ');
            }
            makesNothing("feed", x, y -> y.feed(v[0], v[1], v[2], v[3], v[4]));
        }
        makesNothing("end", x, y -> y.end(text.length()), text.length());
    }

    /** The machine itself makes something when a class of the library is named first: these are named here. */
    private static void measuresWell() {
        CarriedWorks x = new CarriedWorks();
        Arrays.fill(new int[Math.min(1, Integer.bitCount(3))], 1);
        System.arraycopy(new int[1], 0, new int[1], 0, 1);
        for (int i = 0; i < 100; i++) {
            made(x, y -> 0);
            made(x, y -> makesRow());
        }
        c.due("nothing is 0 bytes", made(x, y -> 0), 0);
        c.holds("a row is seen", made(x, y -> makesRow()) >= 40);
    }

    private static int makesRow() {
        escaped = new int[10];
        return 0;
    }

    private static void wholeFace() {
        for (Method m : CarriedWorks.class.getDeclaredMethods()) {
            if (Modifier.isPublic(m.getModifiers())) {
                c.holds(m.getName() + " was measured", MEASURED.contains(m.getName()));
            }
        }
    }

    /** All objects that the object is made of. */
    private static Set<Object> partsOf(Object whole) {
        Set<Object> parts = Collections.newSetFromMap(new IdentityHashMap<>());
        Deque<Object> open = new ArrayDeque<>();
        open.add(whole);
        while (!open.isEmpty()) {
            Object part = open.remove();
            if (!parts.add(part)) {
                continue;
            }
            if (part instanceof Object[] row) {
                for (Object one : row) {
                    addPart(one, open);
                }
            } else if (!part.getClass().isArray()) {
                for (Field f : part.getClass().getDeclaredFields()) {
                    if (!Modifier.isStatic(f.getModifiers()) && !f.getType().isPrimitive()) {
                        addPart(valueOf(f, part), open);
                    }
                }
            }
        }
        return parts;
    }

    private static void addPart(Object part, Deque<Object> open) {
        c.holds("no part is missing until a call makes it", part != null);
        if (part != null) {
            open.add(part);
        }
    }

    private static Object valueOf(Field f, Object part) {
        try {
            f.setAccessible(true);
            return f.get(part);
        } catch (IllegalAccessException e) {
            throw new IllegalStateException(e);
        }
    }

    private static int sizeOf(Set<Object> parts) {
        int size = 0;
        for (Object part : parts) {
            if (part.getClass().isArray()) {
                size += Array.getLength(part);
            } else {
                for (Field f : part.getClass().getDeclaredFields()) {
                    size += Modifier.isStatic(f.getModifiers()) ? 0 : 1;
                }
            }
        }
        return size;
    }

    private static void objectIsSmall() {
        Set<Object> parts = partsOf(new CarriedWorks());
        System.out.println("room: an object has " + parts.size() + " objects and arrays, " + sizeOf(parts) + " fields and elements");
        c.holds("objects and arrays: " + parts.size(), parts.size() < 2_000);
        c.holds("fields and elements: " + sizeOf(parts), sizeOf(parts) < 200_000);
        for (Object part : parts) {
            c.holds("of its own classes and numbers: " + part.getClass(), part.getClass().getName().matches("CarriedWorks.*|\\[[IJBZ]|\\[LCarriedWorks.*"));
        }
    }

    private static void sameParts(CarriedWorks x, Set<Object> before) {
        Set<Object> behind = partsOf(x);
        c.due("as many parts", behind.size(), before.size());
        c.holds("the same parts", before.containsAll(behind));
    }

    /** Each method of the face, for the first time. */
    private static void firstCalls() {
        CarriedWorks x = new CarriedWorks();
        Set<Object> before = partsOf(x);
        tape(x, "1:if a<2 go 3;2:set b=a+1;3:stop;4:go 1;");
        makesNothing("old", x, y -> y.old(0), 4);
        makesNothing("fault", x, y -> y.fault(0), 0);
        makesNothing("span", x, y -> y.span(0, 0, 0, 3), 4);
        makesNothing("run", x, y -> y.run(0, 3), 0);
        makesNothing("field", x, y -> y.field(1), 4);
        makesNothing("did", x, y -> y.did(), 3);
        makesNothing("make", x, y -> y.make(0), 2);
        makesNothing("ways", x, y -> y.ways(0), 2);
        makesNothing("way", x, y -> y.way(1, 4, 1), 2);
        makesNothing("rule", x, y -> y.rule(1, 1, -1), 1);
        makesNothing("dead", x, y -> y.dead(), 8);
        makesNothing("kinds", x, y -> y.kinds(), 2);
        makesNothing("keep", x, y -> y.keep(1), 0);
        makesNothing("wish", x, y -> y.wish(0, 1, 1, 5), 1);
        makesNothing("casing", x, y -> y.casing(0, 1, 3, 1, 0), 6);
        makesNothing("runNew", x, y -> y.runNew(0, 3), 0);
        makesNothing("unlike", x, y -> y.unlike(0), 2);
        makesNothing("parts", x, y -> y.parts(0, 0), 2);
        makesNothing("where", x, y -> y.where(0, 3), 2);
        makesNothing("sheet", x, y -> y.sheet(0, 2, 60), 0);
        makesNothing("write", x, y -> y.write(0, 0, 3), 0);
        makesNothing("paste", x, y -> y.paste(0, 0, 0, 1, 59), 0);
        makesNothing("night", x, y -> y.night(0, 0), 2);
        makesNothing("heaps", x, y -> y.heaps(), 1);
        makesNothing("heap", x, y -> y.heap(0, 4), 2);
        makesNothing("judge", x, y -> y.judge(0, 2), 0);
        tape(x, "else{b=a;}");
        makesNothing("renew", x, y -> y.renew(0), 1);
        makesNothing("restore", x, y -> y.restore(1), 0);
        makesNothing("CASES made", x, y -> y.count(1), 2);
        makesNothing("form", x, y -> y.form(2, 1), 0);
        makesNothing("put", x, y -> y.put(0, 1, 4), 1);
        makesNothing("lead", x, y -> y.lead(0), 1);
        makesNothing("row", x, y -> y.row(0, 4), 1);
        makesNothing("check", x, y -> y.check(), -3);
        sameParts(x, before);
    }

    private static void cutOver() {
        CarriedWorks x = new CarriedWorks();
        Set<Object> before = partsOf(x);
        makesNothing("calls", x, y -> y.calls(1, 0, 9), -1);
        makesNothing("needs", x, y -> y.needs(1, 0), 0);
        makesNothing("plan", x, y -> y.plan(255), 9);
        makesNothing("planned", x, y -> y.planned(1), 1);
        makesNothing("old", x, y -> y.old(0), 0);
        makesNothing("make", x, y -> y.make(0), 1);
        makesNothing("sheet", x, y -> y.sheet(0, 0, 0), 0);
        makesNothing("night", x, y -> y.night(0, 0), 0);
        makesNothing("live", x, y -> y.live(0), 0);
        makesNothing("back", x, y -> y.back(0), 1);
        makesNothing("live", x, y -> y.live(0), 0);
        makesNothing("calls", x, y -> y.calls(1, 0, -1), 9);
        makesNothing("retire", x, y -> y.retire(0), 0);
        makesNothing("state", x, y -> y.state(0), 4);
        for (int i = -1; i <= 11; i++) {
            int what = i;
            makesNothing("count", x, y -> y.count(what));
        }
        sameParts(x, before);
    }

    private static void longestTexts() {
        CarriedWorks x = new CarriedWorks();
        Set<Object> before = partsOf(x);
        for (int i = 0; i < 3; i++) {
            int p = i;
            tape(x, LONGEST_OLD);
            makesNothing("old", x, y -> y.old(p), 24);
            tape(x, FULLEST);
            makesNothing("old", x, y -> y.old(p), 22);
            makesNothing("keep", x, y -> y.keep(p), 0);
            tape(x, LONGEST_NEW);
            makesNothing("renew", x, y -> y.renew(p), 12);
            makesNothing("keep", x, y -> y.keep(p), 0);
            makesNothing("restore", x, y -> y.restore(p), 0);
        }
        tape(x, LONGEST_NEW.replace("  ", "=="));
        makesNothing("a FAULT", x, y -> y.renew(4), -4);
        tape(x, LONGEST_OLD.replace("  ", "=="));
        makesNothing("a FAULT", x, y -> y.old(4), -4);
        sameParts(x, before);
    }

    /** Each PROGRAM with as many CASES as can be made, in all IMAGES. */
    private static void fullestImages() {
        CarriedWorks x = new CarriedWorks();
        Set<Object> before = partsOf(x);
        for (int i = 0; i < 8; i++) {
            int p = i;
            tape(x, FULLEST);
            makesNothing("old", x, y -> y.old(p), 22);
            makesNothing("span", x, y -> y.span(p, 0, 1, 40), 40);
            makesNothing("span", x, y -> y.span(p, 1, 1, 2), 80);
            makesNothing("span", x, y -> y.span(p, 2, 1, 2), 160);
            makesNothing("make", x, y -> y.make(p), 40);
        }
        for (int i = 0; i < 3; i++) {
            int k = i;
            makesNothing("keep", x, y -> y.keep(k), 0);
            makesNothing("restore", x, y -> y.restore(k), 0);
        }
        makesNothing("run", x, y -> y.run(7, 159), 0);
        makesNothing("ACTS", x, y -> y.did(), 100);
        makesNothing("CASES", x, y -> y.count(1), 320);
        makesNothing("TESTS of the last", x, y -> y.casing(7, 39, 0, 0, 0), 52);
        makesNothing("alone in its last PUT", x, y -> y.casing(7, 39, 3, 7, 0), -41);
        makesNothing("times c in its last PUT", x, y -> y.casing(7, 39, 2, 7, 2), 1);
        makesNothing("unlike", x, y -> y.unlike(7), 0);
        sameParts(x, before);
    }

    private static void mostWays() {
        CarriedWorks x = new CarriedWorks();
        Set<Object> before = partsOf(x);
        tape(x, ROUNDS);
        makesNothing("old", x, y -> y.old(0), 7);
        makesNothing("span", x, y -> y.span(0, 0, 0, 9), 10);
        makesNothing("span", x, y -> y.span(0, 1, 0, 20), 210);
        makesNothing("too many", x, y -> y.ways(0), -3);
        makesNothing("too many", x, y -> y.make(0), -3);
        makesNothing("span", x, y -> y.span(0, 1, 0, 19), 200);
        makesNothing("ways", x, y -> y.ways(0), 200);
        makesNothing("ways", x, y -> y.ways(0), 200);
        makesNothing("kinds", x, y -> y.kinds(), 200);
        makesNothing("make", x, y -> y.make(0), -3);
        makesNothing("span", x, y -> y.span(0, 1, 0, 3), 40);
        makesNothing("make", x, y -> y.make(0), 40);
        sameParts(x, before);
    }

    private static void refusedCalls() {
        CarriedWorks x = new CarriedWorks();
        Set<Object> before = partsOf(x);
        for (int wrong : new int[] {-1, 8, Integer.MIN_VALUE, Integer.MAX_VALUE}) {
            makesNothing("end", x, y -> y.end(wrong), -1);
            makesNothing("old", x, y -> y.old(wrong), -2);
            makesNothing("renew", x, y -> y.renew(wrong), -2);
            makesNothing("span", x, y -> y.span(0, wrong, 0, 1), -2);
            makesNothing("run", x, y -> y.run(wrong, 0), -2);
            makesNothing("runNew", x, y -> y.runNew(wrong, 0), -2);
            makesNothing("ways", x, y -> y.ways(wrong), -2);
            makesNothing("make", x, y -> y.make(wrong), -2);
            makesNothing("night", x, y -> y.night(wrong, 0), -2);
            makesNothing("keep", x, y -> y.keep(wrong), -2);
            makesNothing("restore", x, y -> y.restore(wrong), -2);
            makesNothing("sheet", x, y -> y.sheet(wrong, 0, 0), -2);
            makesNothing("write", x, y -> y.write(wrong, 0, 0), -2);
            makesNothing("paste", x, y -> y.paste(wrong, 0, 0, 0, 0), -2);
        }
        makesNothing("sheet", x, y -> y.sheet(0, 0, Integer.MIN_VALUE), -3);
        makesNothing("sheet", x, y -> y.sheet(0, 0, Integer.MAX_VALUE), -2);
        makesNothing("restore", x, y -> y.restore(0), -6);
        sameParts(x, before);
    }

    /** All PROGRAMS with many CASES, and all IMAGES of them. */
    private static void dearest() {
        CarriedWorks x = new CarriedWorks();
        for (int p = 0; p < 8; p++) {
            Check.old(x, p, ROUNDS);
            x.span(p, 0, 0, 1);
            x.span(p, 1, 0, 19);
            c.due("make", x.make(p), 40);
            c.due("ways", x.ways(p), 40);
        }
        for (int k = 0; k < 3; k++) {
            x.keep(k);
            x.restore(k);
        }
    }

    private static void dearestRun() {
        long made = made(null, y -> {
            dearest();
            return 0;
        });
        c.holds("the dearest run stays far below the room: " + made, made < 1_000_000);
    }

    private static void manyRounds() {
        CarriedWorks x = new CarriedWorks();
        Check.old(x, 0, ROUNDS);
        x.span(0, 0, 0, 4);
        x.span(0, 1, 0, 7);
        Check.old(x, 1, ROUNDS);
        makesNothing("12 rounds", x, y -> {
            for (int i = 0; i < 12; i++) {
                all(y);
            }
            return 0;
        });
    }

    private static void all(CarriedWorks x) {
        x.end(0);
        x.feed(0x656c7365, 0x7b613d31, 0x3b7d2020, 0x20202020, 0x20202020);
        x.renew(0);
        x.ways(0);
        x.make(0);
        x.wish(0, 0, 0, 1);
        x.unlike(0);
        x.parts(0, 0);
        x.where(0, 0);
        x.run(0, 7);
        x.runNew(0, 7);
        x.kinds();
        x.sheet(0, 2, 60);
        x.write(0, 1, 30);
        x.paste(0, 1, 0, 5, 20);
        x.night(0, 0);
        x.plan(255);
        x.form(2, 1);
        x.check();
        x.keep(0);
        x.restore(0);
        for (int what = 0; what < 11; what++) {
            x.count(what);
        }
    }
}
