/** Promises 4, 5 and 6: old, renew, fault; which texts are read, and the first FAULT of others. */
public final class TextTest {
    private static final Check c = new Check("texts");

    public static void main(String[] args) {
        goodOld();
        goodNew();
        oldFaults();
        behindTheEnd();
        fullTape();
        likeWords();
        tooManyOfOld();
        newFaults();
        tooManyOfNew();
        keepsTheTextAhead();
        tellsTheLatest();
        states();
        c.close();
    }

    private static void oldIs(String text, int lines) {
        CarriedWorks x = new CarriedWorks();
        c.due("old " + text, Check.old(x, 3, text), lines);
        c.due("no FAULT of " + text, x.fault(0), 0);
        c.due("no place of " + text, x.fault(1), -1);
        c.due("LINES", x.count(0), lines);
    }

    private static void newIs(String text, int cases) {
        CarriedWorks x = new CarriedWorks();
        c.due("renew " + text, Check.renew(x, 3, text), cases);
        c.due("no FAULT of " + text, x.fault(0), 0);
        c.due("no place of " + text, x.fault(1), -1);
        c.due("CASES", x.count(1), cases);
        c.due("BESIDE", x.state(3), 1);
    }

    private static void oldFaults(String text, int code, int place) {
        CarriedWorks x = new CarriedWorks();
        c.due("old " + text, Check.old(x, 3, text), -4);
        c.due("FAULT of " + text, x.fault(0), code);
        c.due("place of " + text, x.fault(1), place);
        c.due("another what", x.fault(2), -1);
        c.due("another what", x.fault(-1), -1);
    }

    private static void newFaults(String text, int code, int place) {
        CarriedWorks x = new CarriedWorks();
        c.due("renew " + text, Check.renew(x, 3, text), -4);
        c.due("FAULT of " + text, x.fault(0), code);
        c.due("place of " + text, x.fault(1), place);
        c.due("it is OLD still", x.state(3), 0);
    }

    private static void goodOld() {
        oldIs("", 0);
        oldIs(" \n ", 0);
        oldIs("1:stop;", 1);
        oldIs("999:stop;", 1);
        oldIs("0001:stop;", 1);
        oldIs(" 1 : set a = 1 ; \n 2:if b<3 go 0; 3:go 9999;4:stop;", 4);
        oldIs("1:seta=1;".replace("seta", "set a"), 1);
        oldIs("1:set h=-9999*h+0-3*a+b-c+9999;", 1);
        oldIs("1:if a>0go 1;2:if a=9999go9;3:if h<0\ngo 00000000000000000001;", 3);
        oldIs("1:stop;2:stop;998:stop;", 3);
        oldIs(lines(24), 24);
    }

    private static String lines(int n) {
        StringBuilder text = new StringBuilder();
        for (int i = 1; i <= n; i++) {
            text.append(i).append(":stop;");
        }
        return text.toString();
    }

    private static void goodNew() {
        newIs("", 0);
        newIs("else{}", 1);
        newIs("when a<1{}", 1);
        newIs("when -a+2*b-3>0 and 5=5 and a=0 and h<9999{a=b;b=a;}else{h=-1;}", 2);
        newIs("else{a=1;b=1;c=1;d=1;e=1;f=1;g=1;h=a+b+c+d+e+f;}", 1);
        newIs("when 1=1{}".repeat(12), 12);
        newIs("when 1=1{}".repeat(11) + "else{}", 12);
    }

    private static void oldFaults() {
        oldFaults("1:stop", 1, 6);
        oldFaults("1:stop  ", 1, 8);
        oldFaults("1", 1, 1);
        oldFaults(":", 1, 0);
        oldFaults("stop;", 1, 0);
        oldFaults("1 stop;", 1, 2);
        oldFaults("1::stop;", 1, 2);
        oldFaults("1:halt;", 1, 2);
        oldFaults("1:stops;", 1, 2);
        oldFaults("1:stop;;", 1, 7);
        oldFaults("1:Stop;", 1, 2);
        oldFaults("1:\tstop;", 1, 2);
        oldFaults("1:stop;?", 1, 7);
        oldFaults("1:seta=1;", 1, 2);
        oldFaults("1:set i=1;", 1, 6);
        oldFaults("1:set ab=1;", 1, 6);
        oldFaults("1:set 1=1;", 1, 6);
        oldFaults("1:set a 1;", 1, 8);
        oldFaults("1:set a=;", 1, 8);
        oldFaults("1:set a=--1;", 1, 9);
        oldFaults("1:set a=+1;", 1, 8);
        oldFaults("1:set a=1+;", 1, 10);
        oldFaults("1:set a=1 2;", 1, 10);
        oldFaults("1:set a=b*2;", 1, 9);
        oldFaults("1:set a=2*3;", 1, 10);
        oldFaults("1:set a=2*;", 1, 10);
        oldFaults("1:set a=2b;", 1, 9);
        oldFaults("1:set a=set;", 1, 8);
        oldFaults("1:if a<b go 1;", 1, 7);
        oldFaults("1:if a<-1 go 1;", 1, 7);
        oldFaults("1:if 1<1 go 1;", 1, 5);
        oldFaults("1:if a+1<1 go 1;", 1, 6);
        oldFaults("1:if a==1 go 1;", 1, 7);
        oldFaults("1:if a<1 2;", 1, 9);
        oldFaults("1:go;", 1, 4);
        oldFaults("1:go a;", 1, 5);
        oldFaults("1:go 1 2;", 1, 7);
        oldFaults("0:stop;", 2, 0);
        oldFaults("1000:stop;", 2, 0);
        oldFaults("99999999999999999999:stop;", 2, 0);
        oldFaults("5:stop;5:stop;", 2, 7);
        oldFaults("5:stop; 4:stop;", 2, 8);
        oldFaults("1:set a=10000;", 2, 8);
        oldFaults("1:set a=10000*b;", 2, 8);
        oldFaults("1:set a=4294967296;", 2, 8);
        oldFaults("1:if a<10000 go 1;", 2, 7);
        oldFaults("1:if a<1 go 10000;", 2, 12);
        oldFaults("1:go 10000;", 2, 5);
        oldFaults("10000 ?", 2, 0);
        oldFaults("1:set a=10000 ?", 2, 8);
        oldFaults("1:? 10000:", 1, 2);
    }

    /** What stood behind the TAPE's end is no part of the text. */
    private static void behindTheEnd() {
        CarriedWorks x = new CarriedWorks();
        Check.tape(x, "1:stop;2:go 123;3:stop;");
        x.end(13);
        c.due("a FAULT", x.old(0), -4);
        c.due("the end", x.fault(1), 13);
        Check.tape(x, "1:stop;2:stopper;");
        x.end(13);
        c.due("a FAULT", x.old(0), -4);
        c.due("the end", x.fault(1), 13);
        Check.tape(x, "1:stop;2:sto");
        x.end(11);
        c.due("a FAULT", x.old(0), -4);
        c.due("a word that is none", x.fault(1), 9);
    }

    private static void fullTape() {
        oldFaults(";".repeat(600), 1, 0);
        newFaults("{".repeat(600), 1, 0);
        oldFaults(";".repeat(599) + "1", 1, 0);
        newFaults(";".repeat(599) + "h", 1, 0);
        oldFaults(" ".repeat(599) + "1", 1, 600);
        oldFaults("1:" + " ".repeat(594) + "stop", 1, 600);
        oldIs("1:" + " ".repeat(593) + "stop;", 1);
        newFaults(" ".repeat(596) + "else", 1, 600);
        oldFaults("0".repeat(600), 2, 0);
        oldFaults("0".repeat(599) + "1", 1, 600);
        oldFaults("a".repeat(600), 1, 0);
        newIs("when 1=1{}".repeat(12) + " ".repeat(480), 12);
    }

    private static void likeWords() {
        for (String word : new String[] {"xtop", "stxp", "stoz", "stopz", "zstop", "sto", "pet a=1", "if", "of a<1 go 1", "bo 1", "gz 1",
                "sez a=1", "z", "a", "else", "when", "and"}) {
            oldFaults("1:" + word + ";", 1, word.equals("if") ? 4 : 2);
        }
        for (String word : new String[] {"xlse{}", "elsz{}", "ehen a<1{}", "whez a<1{}", "and", "set", "stop", "elsez{}"}) {
            newFaults(word, 1, 0);
        }
        newFaults("when a<1 ant b<1{}", 1, 9);
        newFaults("when a<1 bnd b<1{}", 1, 9);
        oldFaults("1:set az=1;", 1, 6);
        oldFaults("1:set z=1;", 1, 6);
        oldFaults("1:if a<1 gz 1;", 1, 9);
        for (char sign : new char[] {0, 1, 9, 13, 31, '!', '/', '?', '@', 'A', 'Z', '[', '`', '|', '~', 127, 128, 160, 255}) {
            oldFaults("1:stop;" + sign, 1, 7);
            newFaults("else{}" + sign, 1, 6);
            oldFaults("1:sto" + sign + "p;", 1, 2);
        }
    }

    private static void tooManyOfOld() {
        String full = lines(24);
        int past = full.length();
        oldFaults(full + "25:stop;", 3, past);
        oldFaults(full + " 25", 3, past + 1);
        oldFaults(full + "24:stop;", 2, past);
        oldFaults(full + "1000:stop;", 2, past);
        oldFaults(full + "a", 1, past);
        oldFaults(full + ":", 1, past);
        oldIs("1:set a=1+2+3+4+5+6;", 1);
        oldIs("1:set a=-1-2-3-4-5-6;", 1);
        oldFaults("1:set a=1+2+3+4+5+6+7;", 3, 20);
        oldFaults("1:set a=1+2+3+4+5+6-h;", 3, 20);
        oldFaults("1:set a=1+2+3+4+5+6+10000;", 2, 20);
        oldFaults("1:set a=1+2+3+4+5+6+i;", 1, 20);
        oldFaults("1:set a=1+2+3+4+5+6+;", 1, 20);
        oldFaults("1:set a=1+2+3+4+5+6+-7;", 1, 20);
        oldFaults("1:set a=-1+2+3+4+5+6+7*?", 3, 21);
    }

    private static void newFaults() {
        newFaults("when", 1, 4);
        newFaults("when {}", 1, 5);
        newFaults("whena<1{}", 1, 0);
        newFaults("when a{}", 1, 6);
        newFaults("when a<{}", 1, 7);
        newFaults("when a<b{}", 1, 7);
        newFaults("when a<-1{}", 1, 7);
        newFaults("when a<1 or b<1{}", 1, 9);
        newFaults("when a<1 and{}", 1, 12);
        newFaults("when a<1 b=1;", 1, 9);
        newFaults("when a<10000{}", 2, 7);
        newFaults("when 10000<1{}", 2, 5);
        newFaults("else", 1, 4);
        newFaults("else{", 1, 5);
        newFaults("else}", 1, 4);
        newFaults("else a<1{}", 1, 5);
        newFaults("else{}else{}", 1, 6);
        newFaults("else{}when a<1{}", 1, 6);
        newFaults("else{}10000", 1, 6);
        newFaults("else{};", 1, 6);
        newFaults("else{;}", 1, 5);
        newFaults("else{a=1}", 1, 8);
        newFaults("else{i=1;}", 1, 5);
        newFaults("else{a=1;a=2;}", 2, 9);
        newFaults("else{a=1;b=2;a}", 2, 13);
        newFaults("else{a=1;b=2;c=3;d=4;e=5;f=6;g=7;h=8;d=1;}", 2, 37);
        newFaults("else{a=1;b=2;c=3;d=4;e=5;f=6;g=7;h=8;i=1;}", 1, 37);
        newFaults("else{a=10000;}", 2, 7);
        newFaults("else{set a=1;}", 1, 5);
        newFaults("1:stop;", 1, 0);
        newFaults("a=1;", 1, 0);
        newFaults("{}", 1, 0);
    }

    private static void tooManyOfNew() {
        String full = "when 1=1{}".repeat(12);
        newFaults(full + "when", 3, 120);
        newFaults(full + " else", 3, 121);
        newFaults(full + "?", 1, 120);
        newFaults(full + "10000", 1, 120);
        newFaults("when 1=1{}".repeat(11) + "else{}when", 1, 116);
        String four = "when a<1 and b<1 and c<1 and d<1";
        newIs(four + "{}", 1);
        newFaults(four + " and e<1{}", 3, 37);
        newFaults(four + " and -e<1{}", 3, 37);
        newFaults(four + " and -", 3, 37);
        newFaults(four + " and 9999", 3, 37);
        newFaults(four + " and 10000", 2, 37);
        newFaults(four + " and {", 1, 37);
        newFaults(four + " and i", 1, 37);
        newFaults(four + " and", 1, 36);
        newFaults("when 1+2+3+4+5+6+a<1{}", 3, 17);
        newFaults("else{b=1+2+3+4+5+6+a;}", 3, 19);
    }

    private static void keepsTheTextAhead() {
        CarriedWorks x = new CarriedWorks();
        Check.old(x, 0, "1:set a=5;2:stop;");
        c.due("a FAULT", Check.old(x, 0, "1:set a=6;2:stop;3"), -4);
        c.due("run", x.run(0, 0), 0);
        c.due("the text ahead", x.field(0), 5);
        c.due("its LINES", x.count(0), 2);
        Check.renew(x, 0, "else{a=7;}");
        c.due("a FAULT", Check.renew(x, 0, "else{a=8;b=1;}}"), -4);
        c.due("runNew", x.runNew(0, 0), 0);
        c.due("the text ahead", x.field(0), 7);
        c.due("another one", Check.renew(x, 0, "when a=0{a=1;}else{}"), 2);
        c.due("runNew", x.runNew(0, 0), 0);
        c.due("the new text", x.field(0), 1);
        c.due("an empty one", Check.renew(x, 0, ""), 0);
        c.due("it has no CASE", x.runNew(0, 0), 5);
    }

    private static void tellsTheLatest() {
        CarriedWorks x = new CarriedWorks();
        Check.old(x, 0, "1:go");
        c.due("its FAULT", x.fault(0), 1);
        c.due("its place", x.fault(1), 4);
        Check.old(x, 8, "1:stop;");
        c.due("that did not read", x.fault(1), 4);
        x.old(0);
        c.due("no FAULT", x.fault(0), 0);
        c.due("no place", x.fault(1), -1);
        Check.renew(x, 1, "else{a=10000;}");
        c.due("that of renew()", x.fault(0), 2);
        c.due("that of renew()", x.fault(1), 7);
        for (int what : new int[] {2, -1, Integer.MIN_VALUE, Integer.MAX_VALUE}) {
            c.due("another what", x.fault(what), -1);
        }
    }

    private static void states() {
        CarriedWorks x = new CarriedWorks();
        for (int p : new int[] {-1, 8, Integer.MIN_VALUE, Integer.MAX_VALUE}) {
            c.due("none such", x.old(p), -2);
            c.due("none such", x.renew(p), -2);
        }
        c.due("old", x.old(0), 0);
        c.due("renew", x.renew(0), 0);
        c.due("BESIDE: no old()", x.old(0), -2);
        c.due("BESIDE: renew()", x.renew(0), 0);
        x.sheet(0, 0, 0);
        c.due("a night", x.night(0, 0), 0);
        c.due("live", x.live(0), 0);
        c.due("LIVE: no old()", x.old(0), -2);
        c.due("LIVE: no renew()", x.renew(0), -2);
        x.back(0);
        c.due("BACK: no old()", x.old(0), -2);
        c.due("BACK: no renew()", x.renew(0), -2);
    }
}
