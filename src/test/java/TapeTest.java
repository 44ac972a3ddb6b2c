/** Promises 2 and 3: feed, end; and what old(), renew() leave of the TAPE (4, 5). */
public final class TapeTest {
    private static final Check c = new Check("tape");

    public static void main(String[] args) {
        feeds();
        ends();
        highestFirst();
        leavesTheTape();
        c.close();
    }

    private static void feeds() {
        CarriedWorks x = new CarriedWorks();
        for (int i = 1; i <= 30; i++) {
            c.due("feed " + i, x.feed(0, -1, i, Integer.MIN_VALUE, Integer.MAX_VALUE), 20 * i);
        }
        c.due("a 31st", x.feed(1, 2, 3, 4, 5), -1);
        c.due("none came", x.count(5), 600);
        x.end(581);
        c.due("19 are free", x.feed(1, 2, 3, 4, 5), -1);
        c.due("none came", x.count(5), 581);
        x.end(580);
        c.due("20 are free", x.feed(1, 2, 3, 4, 5), 600);
    }

    private static void ends() {
        CarriedWorks x = new CarriedWorks();
        c.due("none yet", x.end(1), -1);
        c.due("0 of none", x.end(0), 0);
        x.feed(0, 0, 0, 0, 0);
        c.due("21 of 20", x.end(21), -1);
        c.due("below 0", x.end(-1), -1);
        c.due("far below 0", x.end(Integer.MIN_VALUE), -1);
        c.due("far above", x.end(Integer.MAX_VALUE), -1);
        c.due("nothing happened", x.count(5), 20);
        c.due("all", x.end(20), 20);
        c.due("some", x.end(7), 7);
        c.due("they are gone", x.end(8), -1);
        c.due("on behind them", x.feed(0, 0, 0, 0, 0), 27);
    }

    private static void highestFirst() {
        CarriedWorks x = new CarriedWorks();
        // "10:s" "et a" "=7;2" "0:st" "op; "
        x.feed(0x31303a73, 0x65742061, 0x3d373b32, 0x303a7374, 0x6f703b20);
        c.due("two LINES", x.old(0), 2);
        c.due("run", x.run(0, 0), 0);
        c.due("a", x.field(0), 7);
        c.due("ACTS", x.did(), 2);
        // "10 :" "go 9" and then bytes of 128 and above
        x.feed(0x3130203a, 0x676f2039, 0x80ffffff, 0, 0);
        c.due("a byte that is no TOKEN", x.old(0), -4);
        c.due("1", x.fault(0), 1);
        c.due("its place", x.fault(1), 8);
    }

    private static void leavesTheTape() {
        CarriedWorks x = new CarriedWorks();
        Check.tape(x, "1:stop;");
        c.due("none such", x.old(8), -2);
        c.due("none such", x.renew(-1), -2);
        c.due("it stays", x.count(5), 7);
        c.due("old", x.old(0), 1);
        c.due("empty then", x.count(5), 0);
        Check.tape(x, "1:stop");
        c.due("a FAULT", x.old(0), -4);
        c.due("empty then", x.count(5), 0);
        Check.tape(x, "else{");
        c.due("a FAULT", x.renew(0), -4);
        c.due("empty then", x.count(5), 0);
        Check.tape(x, "else{}");
        c.due("renew", x.renew(0), 1);
        c.due("empty then", x.count(5), 0);
        Check.tape(x, "1:stop;");
        c.due("it is BESIDE", x.old(0), -2);
        c.due("it stays", x.count(5), 7);
        c.due("the next one may have it", x.old(1), 1);
    }
}
