import java.lang.management.ManagementFactory;

/** A run's room: what 512 calls make in all, and that calls make nothing once their rows are made. */
public final class RoomTest {
    private static final long ROOM_BYTES = 7_300_000L;
    private static final Check c = new Check("room");
    private static final com.sun.management.ThreadMXBean THREADS =
            (com.sun.management.ThreadMXBean) ManagementFactory.getThreadMXBean();

    public static void main(String[] args) {
        madeBy(() -> new CarriedWorks().state(0));
        long made = madeBy(() -> new CarriedWorks().state(0));
        c.holds("a new object is small: " + made, made < 60_000);
        long dearest = madeBy(RoomTest::dearest);
        c.holds("the dearest run stays far below the room: " + dearest, dearest < ROOM_BYTES);
        callsMakeNothing();
        c.close();
    }

    private static long madeBy(Runnable work) {
        long before = THREADS.getThreadAllocatedBytes(Thread.currentThread().getId());
        work.run();
        return THREADS.getThreadAllocatedBytes(Thread.currentThread().getId()) - before;
    }

    private static final String ROUNDS = "1:if a<1 go 4;2:set a=a-1;3:go 1;4:if b<1 go 7;5:set b=b-1;6:go 4;7:stop;";

    /** All PROGRAMS with many CASES, and all IMAGES of them. */
    private static void dearest() {
        CarriedWorks x = new CarriedWorks();
        for (int p = 0; p < 8; p++) {
            Check.old(x, p, ROUNDS);
            x.span(p, 0, 0, 1);
            x.span(p, 1, 0, 19);
            c.due("make", x.make(p), 40);
            c.due("ways", x.ways(p), 40);
        }
        for (int k = 0; k < 3; k++) {
            x.keep(k);
            x.restore(k);
        }
    }

    private static void callsMakeNothing() {
        CarriedWorks x = new CarriedWorks();
        Check.old(x, 0, ROUNDS);
        x.span(0, 0, 0, 4);
        x.span(0, 1, 0, 7);
        Check.old(x, 1, ROUNDS);
        for (int i = 0; i < 4; i++) {
            all(x);
        }
        long made = madeBy(() -> {
            for (int i = 0; i < 20; i++) {
                all(x);
            }
        });
        c.holds("20 rounds made nothing: " + made, made < 2_000);
    }

    private static void all(CarriedWorks x) {
        x.end(0);
        x.feed(0x656c7365, 0x7b613d31, 0x3b7d2020, 0x20202020, 0x20202020);
        x.renew(0);
        x.ways(0);
        x.make(0);
        x.wish(0, 0, 0, 1);
        x.unlike(0);
        x.parts(0, 0);
        x.where(0, 0);
        x.run(0, 7);
        x.runNew(0, 7);
        x.kinds();
        x.sheet(0, 2, 60);
        x.write(0, 1, 30);
        x.paste(0, 1, 0, 5, 20);
        x.night(0, 0);
        x.plan(255);
        x.form(2, 1);
        x.check();
        x.keep(0);
        x.restore(0);
        for (int what = 0; what < 11; what++) {
            x.count(what);
        }
    }
}
