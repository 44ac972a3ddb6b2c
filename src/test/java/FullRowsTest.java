/** Texts that fill the rows of an object to their ends: none has a cell too few, and IMAGES keep them whole. */
public final class FullRowsTest {
    private static final Check c = new Check("full rows");

    public static void main(String[] args) {
        everyTurn();
        turnsThatAreOthers();
        spansToldLater();
        longestOld();
        fullestCases();
        longestNew();
        madeAndToldInTurn();
        c.close();
    }

    /**
     * An if that goes on with the next LINE both ways: all INPUTS go one WAY of 88 TESTS, a = 1 .. 84
     * hold one of them each that does not hold for a = 0, the least INPUT.
     */
    private static String turning() {
        StringBuilder text = new StringBuilder();
        for (int i = 1; i <= 21; i++) {
            text.append(i).append(":if a=").append(i).append(" go ").append(i + 1).append(";");
        }
        return text.append("22:set a=a-21;23:set c=c+1;24:if c<4 go 1;").toString();
    }

    private static void everyTurn() {
        CarriedWorks x = new CarriedWorks();
        c.due("LINES", Check.old(x, 0, turning()), 24);
        x.span(0, 0, 0, 98);
        c.due("one WAY", x.ways(0), 1);
        c.due("ACTS", x.way(0, 3, 0), 96);
        c.due("one CASE", x.make(0), 1);
        c.due("TESTS", x.casing(0, 0, 0, 0, 0), 88);
        for (int a = 0; a <= 98; a++) {
            c.due("a = " + a, x.runNew(0, a), a >= 1 && a <= 84 ? 5 : 0);
            c.due("its CASE", x.did(), a >= 1 && a <= 84 ? -1 : 0);
        }
        x.keep(2);
        Check.renew(x, 0, "else{}");
        c.due("all are others", x.unlike(0), 99);
        x.restore(2);
        c.due("UNLIKE", x.unlike(0), 84);
    }

    /** As many ifs, of which just the last one is another one. */
    private static void turnsThatAreOthers() {
        CarriedWorks x = new CarriedWorks();
        // 32 rounds and one if more: the 33rd, 65th or 97th turn would be the first of a word
        Check.old(x, 0, "1:set c=c+1;2:if c<32 go 1;3:if a=0 go 5;4:set b=7;5:stop;");
        x.span(0, 0, 0, 2);
        c.due("CASES", x.make(0), 2);
        c.due("TESTS", x.casing(0, 0, 0, 0, 0), 33);
        c.due("TESTS", x.casing(0, 1, 0, 0, 0), 33);
        x.runNew(0, 0);
        c.due("a = 0", x.did(), 0);
        x.runNew(0, 1);
        c.due("a = 1", x.did(), 1);
        c.due("b", x.field(1), 7);
        c.due("alike", x.unlike(0), 0);
        Check.old(x, 1, "1:if a=0 go 2;2:if b=0 go 4;3:set b=7;4:set c=1;");
        x.span(1, 0, 0, 1);
        x.span(1, 1, 0, 1);
        c.due("CASES", x.make(1), 2);
        c.due("a = 1 is no CASE's", x.unlike(1), 2);
    }

    /** CASES are made of the FIELDS that have a SPAN then; those that get one later are not in their SUMS. */
    private static void spansToldLater() {
        CarriedWorks x = new CarriedWorks();
        Check.old(x, 0, "1:if b>0 go 4;2:set c=a+b;3:stop;4:set c=100;");
        x.span(0, 0, 0, 1);
        c.due("CASES", x.make(0), 1);
        c.due("TESTS", x.casing(0, 0, 0, 0, 0), 1);
        x.span(0, 1, 0, 2);
        for (int input = 0; input < 6; input++) {
            c.due("b is not in its TEST", x.runNew(0, input), 0);
            c.due("its CASE", x.did(), 0);
            c.due("nor in its PUT of c", x.field(2), input / 3);
            c.due("it is put what it was made of", x.field(1), 0);
        }
        c.due("UNLIKE", x.unlike(0), 4);
        x.keep(0);
        c.due("CASES anew", x.make(0), 2);
        c.due("alike", x.unlike(0), 0);
        x.restore(0);
        c.due("as they were", x.unlike(0), 4);
        x.span(0, 0, 1, 0);
        x.run(0, 1);
        c.due("OLD", x.field(2), 100);
        x.runNew(0, 1);
        c.due("a has no SPAN now, and is 0", x.field(2), 0);
    }

    private static void feed(CarriedWorks x, Model m, String text) {
        Check.tape(x, text);
        m.end(0);
        StringBuilder full = new StringBuilder(text);
        while (full.length() % 20 != 0) {
            full.append(' ');
        }
        for (int at = 0; at < full.length(); at += 20) {
            int[] v = new int[5];
            for (int i = 0; i < 20; i++) {
                v[i / 4] = v[i / 4] << 8 | full.charAt(at + i);
            }
            m.feed(v[0], v[1], v[2], v[3], v[4]);
        }
        c.due("bytes", m.end(text.length()), text.length());
    }

    /** All SUMS of all CASES, not of more than one object's 512 calls. */
    private static void sameCase(CarriedWorks x, Model m, int p, int k) {
        c.due("TESTS", x.casing(p, k, 0, 0, 0), m.casing(p, k, 0, 0, 0));
        c.due("PUTS", x.casing(p, k, 1, 0, 0), m.casing(p, k, 1, 0, 0));
        for (int j = 0; j < 8; j++) {
            c.due("alone", x.casing(p, k, 3, j, 0), m.casing(p, k, 3, j, 0));
            c.due("FIELD", x.casing(p, k, 4, j, 0), m.casing(p, k, 4, j, 0));
            for (int i = 0; i < 8; i++) {
                c.due("times", x.casing(p, k, 2, j, i), m.casing(p, k, 2, j, i));
            }
        }
    }

    private static void sameRun(CarriedWorks x, Model m, int p, int input) {
        c.due("run", x.run(p, input), m.run(p, input));
        c.due("ACTS", x.did(), m.did());
        for (int f = 0; f < 8; f++) {
            c.due("FIELD", x.field(f), m.field(f));
        }
    }

    /** 24 SUMS of six FIELDS; each but the last one's FIELDS are needed by it. */
    private static String sixEach() {
        StringBuilder text = new StringBuilder();
        for (int line = 1; line <= 24; line++) {
            text.append(line).append(":set ").append((char) ('a' + line % 8)).append('=');
            for (int i = 0; i < 6; i++) {
                text.append(i == 0 ? "" : i % 2 == 0 ? "+" : "-").append((char) ('a' + (line + i) % 8));
            }
            text.append(';');
        }
        return text.toString();
    }

    private static void longestOld() {
        for (int p : new int[] {0, 7}) {
            CarriedWorks x = new CarriedWorks();
            Model m = new Model();
            feed(x, m, sixEach());
            c.due("LINES", x.old(p), 24);
            c.due("LINES", m.old(p), 24);
            for (int f = 0; f < 3; f++) {
                c.due("INPUTS", x.span(p, 3 * f, -2, 1), m.span(p, 3 * f, -2, 1));
            }
            x.keep(1);
            Check.old(x, p, "1:stop;");
            x.restore(1);
            for (int input = 0; input < 8; input++) {
                sameRun(x, m, p, input * 9);
            }
            c.due("make", x.make(p), m.make(p));
            sameCase(x, m, p, 0);
            c.due("alike", x.unlike(p), 0);
        }
    }

    /** 40 CASES, each PUT of three FIELDS and something alone, the last CASE of 100 ACTS. */
    private static String fullest() {
        StringBuilder text = new StringBuilder("1:set a=a-1;2:if a>0 go 1;3:set d=2*a+3*b+5*c-1;");
        for (int i = 0; i < 7; i++) {
            text.append(4 + i).append(":set ").append("efghbca".charAt(i)).append("=d-").append(i).append(";");
        }
        for (int line = 11; line <= 22; line++) {
            text.append(line).append(":if a>999 go 1;");
        }
        return text.toString();
    }

    private static void fullestCases() {
        for (int k = 0; k < 40; k += 13) {
            CarriedWorks x = new CarriedWorks();
            Model m = new Model();
            feed(x, m, fullest());
            c.due("LINES", x.old(7), 22);
            m.old(7);
            for (int f = 0; f < 3; f++) {
                c.due("INPUTS", x.span(7, f, 1, f == 0 ? 40 : 2), m.span(7, f, 1, f == 0 ? 40 : 2));
            }
            c.due("CASES", x.make(7), 40);
            m.make(7);
            x.keep(0);
            sameCase(x, m, 7, k);
            x.wish(7, 39, 7, 1);
            c.due("the last PUT", x.casing(7, 39, 3, 7, 0), m.casing(7, 39, 3, 7, 0) + 1);
            c.due("its INPUTS", x.unlike(7), 4);
            x.restore(0);
            sameCase(x, m, 7, k);
            sameCase(x, m, 7, 39);
            c.due("alike", x.unlike(7), 0);
            x.run(7, 159);
            c.due("ACTS", x.did(), 100);
        }
    }

    /** 12 CASES of eight PUTS each, and the last one's SUMS as long as they can be. */
    private static String longest() {
        StringBuilder text = new StringBuilder();
        for (int i = 0; i < 11; i++) {
            text.append("when b<").append(i).append("{a=b;b=a;c=d;d=e;e=f;f=g;g=h;h=a;}");
        }
        text.append("else{");
        for (int f = 0; f < 8; f++) {
            text.append((char) ('a' + f)).append("=c+d+e+f+g+h;");
        }
        return text.append("}").toString();
    }

    private static void longestNew() {
        CarriedWorks x = new CarriedWorks();
        Model m = new Model();
        String text = longest();
        c.holds("600 bytes at most: " + text.length(), text.length() <= 600 && text.length() > 560);
        feed(x, m, text);
        int cases = x.renew(3);
        c.due("CASES", cases, m.renew(3));
        c.due("CASES", cases, 12);
        sameCase(x, m, 3, cases - 1);
        x.keep(2);
        x.renew(3);
        c.due("none", x.count(1), 0);
        x.restore(2);
        sameCase(x, m, 3, cases - 2);
        sameCase(x, m, 3, cases - 1);
    }

    /** One row has CASES made and told by turns, and nothing of the one stays for the other. */
    private static void madeAndToldInTurn() {
        CarriedWorks x = new CarriedWorks();
        Check.old(x, 0, "1:if a=1 go 3;2:set b=5;3:set c=a;");
        x.span(0, 0, 0, 2);
        for (int i = 0; i < 4; i++) {
            for (int again = 0; again <= i; again++) {
                c.due("CASES", x.make(0), 2);
                c.due("alike", x.unlike(0), 0);
            }
            c.due("told", Check.renew(x, 0, "when a=2{b=5;}else{c=a;}"), 2);
            c.due("UNLIKE", x.unlike(0), 2);
            x.runNew(0, 2);
            c.due("CASE told", x.did(), 0);
            c.due("refused", Check.renew(x, 0, "when a=2{b=5;}else{c=a;}x"), -4);
            c.due("UNLIKE still", x.unlike(0), 2);
        }
    }
}
