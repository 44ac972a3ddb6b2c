/** Promise 1: a new object. */
public final class NewObjectTest {
    public static void main(String[] args) {
        Check c = new Check("new object");
        CarriedWorks x = new CarriedWorks();
        c.due("NONE", CarriedWorks.NONE, -1);
        for (int p = 0; p < 8; p++) {
            c.due("state", x.state(p), 0);
            c.due("run", x.run(p, 0), -2);
            c.due("runNew", x.runNew(p, 0), -2);
            c.due("ways", x.ways(p), -2);
            c.due("make", x.make(p), -2);
            c.due("casing", x.casing(p, 0, 0, 0, 0), -2000000000);
            c.due("unlike", x.unlike(p), -2);
            c.due("live", x.live(p), -2);
            for (int q = 0; q < 8; q++) {
                if (p != q) {
                    c.due("calls", x.calls(p, q, -1), -1);
                }
            }
            c.due("one INPUT", x.span(p, 0, 1, 0), 1);
        }
        for (int i = 0; i < 20; i++) {
            c.due("OLD's", x.row(i, 0), 0);
            c.due("NEW's", x.row(i, 1), 0);
            c.due("TRUE", x.row(i, 2), 0);
            c.due("BEHIND", x.row(i, 3), 0);
            c.due("LOST", x.row(i, 4), 0);
        }
        for (int slot = 0; slot < 4; slot++) {
            c.due("write", x.write(slot, 0, 1), -6);
        }
        for (int what = 0; what <= 10; what++) {
            c.due("count", x.count(what), 0);
        }
        for (int f = 0; f < 8; f++) {
            c.due("field", x.field(f), 0);
        }
        for (int k = 0; k < 3; k++) {
            c.due("restore", x.restore(k), -6);
        }
        c.due("did", x.did(), -1);
        c.due("fault 0", x.fault(0), 0);
        c.due("fault 1", x.fault(1), -1);
        c.due("dead", x.dead(), 0);
        c.due("kinds", x.kinds(), 0);
        c.due("way", x.way(0, 0, 0), -1);
        c.due("rule", x.rule(0, 0, -1), -2000000000);
        c.due("heaps", x.heaps(), 0);
        c.due("heap", x.heap(0, 0), -1);
        c.due("planned", x.planned(0), -1);
        c.due("check", x.check(), -1);
        c.due("a second object is new, too", new CarriedWorks().count(5), 0);
        c.close();
    }
}
