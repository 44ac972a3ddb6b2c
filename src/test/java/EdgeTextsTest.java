/**
 * Promises 1 to 6 and the rules of both texts (term I): each bound that is named, with a text that stands at it
 * and one just beyond, the FAULT and its place.
 */
public final class EdgeTextsTest {
    private static final Check c = new Check("edges of texts");

    public static void main(String[] args) {
        everyByteHasItsPlace();
        sixHundredBytes();
        endOfTheTape();
        faultAheadOfAny();
        emptyTexts();
        blanks();
        longestTokens();
        wordsByEachLetter();
        sixHundredTokens();
        behindTheEnd();
        nothingOfTheTextAhead();
        signsBesideLetters();
        twentyFourLines();
        lineNumbers();
        aboveTheLineAhead();
        numbersEverywhere();
        fieldsEverywhere();
        sixTerms();
        twelveCases();
        nothingBehindElse();
        fourTests();
        eightPuts();
        leastOfOnePlace();
        firstByPlace();
        theEndsPlace();
        faultyOldLeaves();
        faultyNewLeaves();
        emptyTapeBehindReading();
        statesOfTexts();
        c.close();
    }

    private static void old(String text, int lines) {
        CarriedWorks x = new CarriedWorks();
        c.due("old " + text, Check.old(x, 7, text), lines);
        c.due("FAULT 0 of " + text, x.fault(0), 0);
        c.due("no place of " + text, x.fault(1), -1);
        c.due("LINES of " + text, x.count(0), lines);
        c.due("the TAPE is empty", x.count(5), 0);
    }

    private static void oldFault(String text, int fault, int place) {
        CarriedWorks x = new CarriedWorks();
        c.due("old " + text, Check.old(x, 7, text), -4);
        c.due("FAULT of " + text, x.fault(0), fault);
        c.due("place of " + text, x.fault(1), place);
        c.due("no text by " + text, x.run(7, 0), -2);
        c.due("the TAPE is empty", x.count(5), 0);
    }

    private static void renew(String text, int cases) {
        CarriedWorks x = new CarriedWorks();
        c.due("renew " + text, Check.renew(x, 7, text), cases);
        c.due("FAULT 0 of " + text, x.fault(0), 0);
        c.due("no place of " + text, x.fault(1), -1);
        c.due("CASES of " + text, x.count(1), cases);
        c.due("BESIDE by " + text, x.state(7), 1);
        c.due("the TAPE is empty", x.count(5), 0);
    }

    private static void newFault(String text, int fault, int place) {
        CarriedWorks x = new CarriedWorks();
        c.due("renew " + text, Check.renew(x, 7, text), -4);
        c.due("FAULT of " + text, x.fault(0), fault);
        c.due("place of " + text, x.fault(1), place);
        c.due("no text by " + text, x.runNew(7, 0), -2);
        c.due("OLD still by " + text, x.state(7), 0);
        c.due("the TAPE is empty", x.count(5), 0);
    }

    /** Promise 2: four of each number, the highest first. */
    private static void everyByteHasItsPlace() {
        for (int at = 0; at < 20; at++) {
            int[] numbers = {0x20202020, 0x20202020, 0x20202020, 0x20202020, 0x20202020};
            numbers[at / 4] ^= (0x20 ^ ';') << 24 - 8 * (at % 4);
            CarriedWorks x = new CarriedWorks();
            c.due("20", x.feed(numbers[0], numbers[1], numbers[2], numbers[3], numbers[4]), 20);
            c.due("a FAULT", x.old(0), -4);
            c.due("byte " + at, x.fault(1), at);
            x.feed(0x20202020, 0x20202020, 0x20202020, 0x20202020, 0x20202020);
            c.due("40", x.feed(numbers[0], numbers[1], numbers[2], numbers[3], numbers[4]), 40);
            x.old(0);
            c.due("behind the TAPE", x.fault(1), 20 + at);
        }
        CarriedWorks x = new CarriedWorks();
        x.feed(0x20202020, -1, 0, 0, 0);
        x.old(0);
        c.due("a number below 0 has bytes, too", x.fault(1), 4);
    }

    /** Promise 2: NONE, and none come, if it would have more than 600. */
    private static void sixHundredBytes() {
        CarriedWorks x = new CarriedWorks();
        for (int i = 1; i <= 29; i++) {
            x.feed(0x20202020, 0x20202020, 0x20202020, 0x20202020, 0x20202020);
        }
        c.due("580", x.count(5), 580);
        c.due("600", x.feed(0x20202020, 0x20202020, 0x20202020, 0x20202020, 0x2020203b), 600);
        c.due("620", x.feed(0x3b3b3b3b, 0, 0, 0, 0), -1);
        c.due("none came", x.count(5), 600);
        c.due("a FAULT", x.old(0), -4);
        c.due("the last byte of 600", x.fault(1), 599);
        for (int free = 0; free < 20; free++) {
            CarriedWorks y = new CarriedWorks();
            Check.tape(y, " ".repeat(600 - free));
            c.due("free: " + free, y.feed(0x3b3b3b3b, 0, 0, 0, 0), -1);
            c.due("none came", y.count(5), 600 - free);
            c.due("none of these bytes", y.old(0), 0);
        }
        Check.tape(x, " ".repeat(580));
        c.due("20 are free", x.feed(0x3b3b3b3b, 0, 0, 0, 0), 600);
        x.old(0);
        c.due("they came", x.fault(1), 580);
        c.due("an empty TAPE again", x.feed(0, 0, 0, 0, 0), 20);
    }

    /** Promise 3: its first n bytes alone; NONE, and nothing happens, for more than it has or below 0. */
    private static void endOfTheTape() {
        CarriedWorks x = new CarriedWorks();
        c.due("0 of none", x.end(0), 0);
        c.due("1 of none", x.end(1), -1);
        c.due("-1 of none", x.end(-1), -1);
        Check.tape(x, "1:stop;?");
        c.due("9 of 8", x.end(9), -1);
        c.due("below 0", x.end(-1), -1);
        c.due("8 stay", x.count(5), 8);
        c.due("8 of 8", x.end(8), 8);
        c.due("7 of 8", x.end(7), 7);
        c.due("8 of 7", x.end(8), -1);
        c.due("7 stay", x.count(5), 7);
        c.due("27", x.feed(0x323a7374, 0x6f703b20, 0x20202020, 0x20202020, 0x20202020), 27);
        c.due("behind the first 7", x.old(0), 2);
        Check.tape(x, " ".repeat(599) + ";");
        c.due("600 of 600", x.end(600), 600);
        c.due("601 of 600", x.end(601), -1);
        c.due("0 of 600", x.end(0), 0);
        c.due("an empty text", x.old(0), 0);
    }

    /** Promise 6. */
    private static void faultAheadOfAny() {
        CarriedWorks x = new CarriedWorks();
        c.due("0 ahead of any", x.fault(0), 0);
        c.due("NONE ahead of any", x.fault(1), -1);
        c.due("another what", x.fault(2), -1);
        c.due("another what", x.fault(-1), -1);
        Check.tape(x, "?");
        c.due("it did not read", x.old(8), -2);
        c.due("it did not read", x.renew(8), -2);
        c.due("0 still", x.fault(0), 0);
        c.due("NONE still", x.fault(1), -1);
        x.renew(0);
        c.due("1", x.fault(0), 1);
        c.due("at 0", x.fault(1), 0);
        c.due("another what", x.fault(2), -1);
        c.due("another what", x.fault(-1), -1);
        x.old(0);
        c.due("without", x.fault(0), 0);
        c.due("without", x.fault(1), -1);
    }

    private static void emptyTexts() {
        old("", 0);
        old(" ", 0);
        old("\n", 0);
        old(" \n".repeat(300), 0);
        renew("", 0);
        renew(" \n".repeat(300), 0);
    }

    /** Bytes 32 and 10 alone are blanks, and they part TOKENS. */
    private static void blanks() {
        old("\n1\n:\nset\na\n=\n2\n*\nb\n;\n", 1);
        old(" 1 : set a = 2 * b ; ", 1);
        for (int sign : new int[] {0, 9, 11, 12, 13, 31, 33, 127, 128 + 10, 128 + 32, 160, 255}) {
            oldFault("1:" + (char) sign + "stop;", 1, 2);
            newFault("else" + (char) sign + "{}", 1, 4);
        }
        oldFault("1:st op;", 1, 2);
        oldFault("1:st\nop;", 1, 2);
        oldFault("1 2:stop;", 1, 2);
        oldFault("1\n2:stop;", 1, 2);
        oldFault("1:set a=1 2;", 1, 10);
    }

    /** The longest TOKEN that begins there. */
    private static void longestTokens() {
        old("1:go1;", 1);
        old("1:if a<1go1;", 1);
        oldFault("1:gogo 1;", 1, 2);
        oldFault("1:ifa<1 go 1;", 1, 2);
        oldFault("1:set aa=1;", 1, 6);
        oldFault("1:set a=bb;", 1, 8);
        oldFault("1:set a=2b;", 1, 9);
        oldFault("1:stopstop;", 1, 2);
        old("1:go 9999;", 1);
        oldFault("1:go 99990;", 2, 5);
        newFault("elsewhen{}", 1, 0);
        newFault("when a<1andb<1{}", 1, 8);
        renew("when a<1and b<1{}", 1);
        newFault("when a<1and b<1{aa=1;}", 1, 16);
    }

    /** A word with another letter at any place, or one more, is another word. */
    private static void wordsByEachLetter() {
        String[] olds = {"1:stop;", "1:set a=1;", "1:if a<1 go 1;", "1:go 1;"};
        for (String text : olds) {
            old(text, 1);
            int past = text.startsWith("1:stop") ? 6 : text.startsWith("1:set") ? 5 : 4;
            for (int at = 2; at < past; at++) {
                for (char letter : new char[] {'a', 'q', 'z'}) {
                    oldFault(text.substring(0, at) + letter + text.substring(at + 1), 1, 2);
                }
            }
            for (char letter = 'a'; letter <= 'z'; letter++) {
                oldFault(text.substring(0, past) + letter + text.substring(past), 1, 2);
                oldFault("1:" + letter + text.substring(2), 1, 2);
            }
        }
        for (String word : new String[] {"when", "else"}) {
            for (int at = 0; at < 4; at++) {
                for (char letter : new char[] {'a', 'q', 'z'}) {
                    newFault(word.substring(0, at) + letter + word.substring(at + 1) + " 1=1{}", 1, 0);
                }
            }
            for (char letter = 'a'; letter <= 'z'; letter++) {
                newFault(word + letter, 1, 0);
                newFault(letter + word, 1, 0);
            }
        }
        for (String word : new String[] {"qnd", "aqd", "anq", "zand", "andz", "an", "nd"}) {
            newFault("when a<1 " + word + " b<1{}", 1, 9);
        }
        for (String word : new String[] {"qo", "gq", "zgo", "goz", "g", "o"}) {
            oldFault("1:if a<1 " + word + " 1;", 1, 9);
        }
    }

    /** A TOKEN at each of the 600 bytes. */
    private static void sixHundredTokens() {
        for (String sign : new String[] {";", "{", ":", "*", "?"}) {
            oldFault(sign.repeat(600), 1, 0);
            newFault(sign.repeat(600), 1, 0);
            oldFault(sign.repeat(599) + "7", 1, 0);
            newFault(sign.repeat(599) + "h", 1, 0);
        }
        String line = "1:set a=-1-a;";
        old(" ".repeat(600 - line.length()) + line, 1);
        oldFault(" ".repeat(600 - line.length() + 1) + line.substring(0, line.length() - 1), 1, 600);
        String one = "else{a=-1;}";
        renew(" ".repeat(600 - one.length()) + one, 1);
        newFault(" ".repeat(600 - one.length() + 1) + one.substring(0, one.length() - 1), 1, 600);
    }

    /** What stood behind the TAPE's end once is no part of a number or word that ends there. */
    private static void behindTheEnd() {
        CarriedWorks x = new CarriedWorks();
        Check.tape(x, "1:go 12345;");
        x.end(9);
        c.due("a FAULT", x.old(0), -4);
        c.due("1234 is well, but no ;", x.fault(0), 1);
        c.due("the end", x.fault(1), 9);
        Check.tape(x, "1:stopp;");
        x.end(6);
        c.due("a FAULT", x.old(0), -4);
        c.due("stop is well, but no ;", x.fault(1), 6);
        Check.tape(x, "1:stop;5");
        x.end(7);
        c.due("one LINE", x.old(0), 1);
        Check.tape(x, "elsee");
        x.end(4);
        c.due("a FAULT", x.renew(0), -4);
        c.due("else is well, but no {", x.fault(1), 4);
    }

    /** One text behind another, each LINE and CASE of another kind: nothing of those ahead is left. */
    private static void nothingOfTheTextAhead() {
        CarriedWorks x = new CarriedWorks();
        String[] olds = {"1:set a=5;2:set a=a+1;", "1:if a=0 go 2;2:stop;", "1:go 2;2:set a=7;", "1:stop;2:stop;", "1:go 3;2:set a=1;", ""};
        int[] stops = {0, 0, 0, 0, 3, 0};
        int[] acts = {2, 2, 2, 1, 1, 0};
        int[] fields = {6, 0, 7, 0, 0, 0};
        for (int i = 0; i < 36; i++) {
            int which = (i % 6 * (i / 6 + 1) + i / 6) % 6;
            Check.old(x, 0, olds[which]);
            c.due("STOPS", x.run(0, 0), stops[which]);
            c.due("ACTS", x.did(), acts[which]);
            c.due("a", x.field(0), fields[which]);
        }
        CarriedWorks y = new CarriedWorks();
        String[] news = {"when a=0{b=1;c=2;}when a=1{b=3;}else{b=4;}", "else{}", "when a=1{b=5;}", "", "when a=0 and b=0 and c=0 and d=0{c=6;}"};
        int[] sizes = {3, 1, 1, 0, 1};
        for (int i = 0; i < 25; i++) {
            int which = (i % 5 * (i / 5 + 1) + i / 5) % 5;
            c.due("CASES", Check.renew(y, 0, news[which]), sizes[which]);
            c.due("STOPS", y.runNew(0, 0), which == 2 || which == 3 ? 5 : 0);
            c.due("b", y.field(1), which == 0 ? 1 : 0);
            c.due("c", y.field(2), which == 0 ? 2 : which == 4 ? 6 : 0);
            c.due("no CASE behind the last", y.wish(0, sizes[which], 1, 1), -2);
            c.due("no CASE behind the last", y.casing(0, sizes[which], 1, 0, 0), -2000000000);
        }
        c.due("no WISH was told", y.count(7), 0);
    }

    /** The bytes next to a .. z, 0 .. 9 and the signs. */
    private static void signsBesideLetters() {
        for (int sign = 0; sign < 256; sign++) {
            char one = (char) sign;
            boolean letter = sign >= 'a' && sign <= 'z';
            boolean digit = sign >= '0' && sign <= '9';
            if (sign == ' ' || sign == '\n') {
                old("1:stop;" + one, 1);
            } else if (digit) {
                // a number may begin a LINE: 0 is below 1, 1 not above the LINE ahead
                oldFault("1:stop;" + one, sign <= '1' ? 2 : 1, sign <= '1' ? 7 : 8);
            } else {
                oldFault("1:stop;" + one, 1, 7);
            }
            if (letter) {
                String text = "1:set a=" + one + ";";
                if (sign <= 'h') {
                    old(text, 1);
                } else {
                    oldFault(text, 1, 8);
                }
            }
        }
    }

    private static String lines(int n) {
        StringBuilder text = new StringBuilder();
        for (int i = 1; i <= n; i++) {
            text.append(i).append(":stop;");
        }
        return text.toString();
    }

    /** 24 LINES at most; 3 a 25th LINE, at its first TOKEN (if it may begin one). */
    private static void twentyFourLines() {
        old(lines(1), 1);
        old(lines(23), 23);
        old(lines(24), 24);
        int past = lines(24).length();
        oldFault(lines(25), 3, past);
        oldFault(lines(24) + "\n \n999:stop;", 3, past + 3);
        oldFault(lines(24) + "25", 3, past);
        oldFault(lines(24) + "25 ?", 3, past);
        for (String other : new String[] {"stop", "a", ":", ";", "{", "-", "?"}) {
            oldFault(lines(24) + other, 1, past);
        }
        old(lines(24) + " ".repeat(600 - past), 24);
    }

    /** N 1 .. 999 of a LINE. */
    private static void lineNumbers() {
        oldFault("0:stop;", 2, 0);
        oldFault("000:stop;", 2, 0);
        old("1:stop;", 1);
        old("001:stop;", 1);
        old("999:stop;", 1);
        old("0999:stop;", 1);
        oldFault("1000:stop;", 2, 0);
        oldFault("9999:stop;", 2, 0);
        oldFault("10000:stop;", 2, 0);
        oldFault("4294967297:stop;", 2, 0);
        oldFault("18446744073709551617:stop;", 2, 0);
        oldFault("1:stop;1000:stop;", 2, 7);
        old("1:stop;999:stop;", 2);
        oldFault("999:stop;1000:stop;", 2, 9);
    }

    private static void aboveTheLineAhead() {
        old("5:stop;6:stop;", 2);
        oldFault("5:stop;5:stop;", 2, 7);
        oldFault("5:stop;4:stop;", 2, 7);
        oldFault("5:stop;0:stop;", 2, 7);
        oldFault("5:stop;05:stop;", 2, 7);
        oldFault("5:stop;9:stop;7:stop;", 2, 14);
        old("998:stop;999:stop;", 2);
        // the LINE ahead of this text's first one is none of the text ahead
        CarriedWorks x = new CarriedWorks();
        Check.old(x, 0, "9:stop;");
        c.due("anew", Check.old(x, 0, "1:stop;"), 1);
    }

    /** N 0 .. 9999 wherever a number stands; 2 at its first byte just beyond. */
    private static void numbersEverywhere() {
        String[] olds = {"1:set a=#;", "1:set a=-#;", "1:set a=b+#;", "1:set a=1-#;", "1:set a=#*b;", "1:set a=c-#*b;",
            "1:if a<#go 1;", "1:if a=1 go #;", "1:go #;"};
        for (String text : olds) {
            int place = text.indexOf('#');
            old(text.replace("#", "0"), 1);
            old(text.replace("#", "9999"), 1);
            old(text.replace("#", "0000009999"), 1);
            oldFault(text.replace("#", "10000"), 2, place);
            oldFault(text.replace("#", "0010000"), 2, place);
            oldFault(text.replace("#", "4294967295"), 2, place);
            oldFault(text.replace("#", "4294967296"), 2, place);
            oldFault(text.replace("#", "9".repeat(500)), 2, place);
        }
        String[] news = {"when #<1{}", "when -#<1{}", "when a-#*b>1{}", "when a<#{}", "when a<1 and b=#{}", "else{a=#;}",
            "else{a=-#;}", "else{a=b+#*c;}", "when a<1{b=2;c=1-#;}"};
        for (String text : news) {
            int place = text.indexOf('#');
            renew(text.replace("#", "0"), 1);
            renew(text.replace("#", "9999"), 1);
            newFault(text.replace("#", "10000"), 2, place);
            newFault(text.replace("#", "4294967296"), 2, place);
        }
    }

    /** F: a word of one letter a .. h. */
    private static void fieldsEverywhere() {
        String[] olds = {"1:set #=1;", "1:set a=#;", "1:set a=-#;", "1:set a=1+#;", "1:set a=2*#;", "1:if #<1 go 1;"};
        for (String text : olds) {
            int place = text.indexOf('#');
            old(text.replace("#", "a"), 1);
            old(text.replace("#", "h"), 1);
            for (String other : new String[] {"i", "z", "A", "ab", "ha", "set", "if", "?", ":", ""}) {
                oldFault(text.replace("#", other), 1, place);
            }
        }
        String[] news = {"when #<1{}", "when -#<1{}", "when 2*#<1{}", "when 1=1 and #>1{}", "else{#=1;}", "else{b=#;}",
            "else{b=1-#;}", "else{b=3*#;}"};
        for (String text : news) {
            int place = text.indexOf('#');
            renew(text.replace("#", "a"), 1);
            renew(text.replace("#", "h"), 1);
            for (String other : new String[] {"i", "z", "H", "ab", "else", "?", ""}) {
                newFault(text.replace("#", other), 1, place);
            }
        }
    }

    /** Six TERMS at most; 3 a seventh, at its first TOKEN (if it can stand there). */
    private static void sixTerms() {
        String[] sixes = {"1+2+3+4+5+6", "-1-2-3-4-5-6", "a+b-c+d-e+f", "2*a-3*b+4*c-5*d+6*e-7*f", "-a+1-2*b+c+4-5*h"};
        for (String six : sixes) {
            old("1:set a=" + six + ";", 1);
            renew("when " + six + "<1{}", 1);
            renew("else{a=" + six + ";}", 1);
            for (String seventh : new String[] {"+7", "-7", "+h", "-h", "+2*h", "- 9999*?"}) {
                int sign = seventh.startsWith("- ") ? 2 : 1;
                oldFault("1:set a=" + six + seventh + ";", 3, 8 + six.length() + sign);
                newFault("when " + six + seventh + "<1{}", 3, 5 + six.length() + sign);
                newFault("else{a=" + six + seventh + ";}", 3, 7 + six.length() + sign);
            }
            for (String none : new String[] {"+;", "+-1;", "-+1;", "+i;", "+set;", "+?;", "+*a;"}) {
                oldFault("1:set a=" + six + none, 1, 8 + six.length() + 1);
            }
            oldFault("1:set a=" + six + "+10000;", 2, 8 + six.length() + 1);
            oldFault("1:set a=" + six, 1, 8 + six.length());
            oldFault("1:set a=" + six + "+", 1, 8 + six.length() + 1);
            oldFault("1:set a=" + six + " 7;", 1, 8 + six.length() + 1);
        }
    }

    /** 12 CASES at most; 3 a 13th, at its first TOKEN (if it may begin one). */
    private static void twelveCases() {
        String one = "when 1=1{}";
        renew(one, 1);
        renew(one.repeat(11), 11);
        renew(one.repeat(12), 12);
        renew(one.repeat(11) + "else{}", 12);
        newFault(one.repeat(13), 3, 120);
        newFault(one.repeat(12) + "else{}", 3, 120);
        newFault(one.repeat(12) + "\nwhen", 3, 121);
        newFault(one.repeat(12) + "else", 3, 120);
        for (String other : new String[] {"whenn", "a", "1", "10000", "{", "}", ";", "and", "?"}) {
            newFault(one.repeat(12) + other, 1, 120);
        }
    }

    private static void nothingBehindElse() {
        renew("else{}", 1);
        renew("else{} \n", 1);
        for (String more : new String[] {"else{}", "when 1=1{}", ";", "}", "{", "a", "1", "10000", "?"}) {
            newFault("else{}" + more, 1, 6);
        }
        newFault("when 1=1{}".repeat(11) + "else{}else{}", 1, 116);
        newFault("when 1=1{}".repeat(11) + "else{}when", 1, 116);
    }

    /** Four TESTS at most; 3 a fifth, at its first TOKEN: a SUM's -, or its TERM's first. */
    private static void fourTests() {
        String four = "when a<1 and b>2 and -c=3 and 2*d+1<4";
        int past = four.length() + 5;
        renew("when a<1{}", 1);
        renew("when a<1 and b>2 and c=3{}", 1);
        renew(four + "{}", 1);
        for (String fifth : new String[] {"e<1{}", "-e<1{}", "5=5{}", "2*e<1{}", "-", "- 10000", "9999", "e"}) {
            newFault(four + " and " + fifth, 3, past);
        }
        newFault(four + " and 10000<1{}", 2, past);
        for (String none : new String[] {"{}", "<1", "+1", "i<1", "and", "when", "?", "*", "}"}) {
            newFault(four + " and " + none, 1, past);
        }
        newFault(four + " and", 1, past - 1);
        // a CASE's TESTS are counted anew
        renew(four + "{}" + four + "{}", 2);
    }

    /** Eight PUTS at most, each of another F; 2 a PUT of an F that was put. */
    private static void eightPuts() {
        String eight = "a=1;b=1;c=1;d=1;e=1;f=1;g=1;h=1;";
        renew("else{}", 1);
        renew("else{" + eight + "}", 1);
        renew("else{h=1;g=1;f=1;e=1;d=1;c=1;b=1;a=1;}", 1);
        for (char letter = 'a'; letter <= 'h'; letter++) {
            newFault("else{" + eight + letter + "=1;}", 2, 37);
            newFault("else{" + letter + "=1;" + letter + "=2;}", 2, 9);
            newFault("else{" + letter + "=1;" + letter, 2, 9);
        }
        newFault("else{" + eight + "i=1;}", 1, 37);
        newFault("else{" + eight + ";}", 1, 37);
        newFault("else{" + eight, 1, 37);
        newFault("else{a=1;b=1;a=1;}", 2, 13);
        // of another CASE it is another PUT
        renew("when 1=1{a=1;}else{a=1;}", 2);
    }

    /** Of one place the least FAULT. */
    private static void leastOfOnePlace() {
        int past = lines(24).length();
        oldFault(lines(24) + "24:stop;", 2, past);
        oldFault(lines(24) + "0:stop;", 2, past);
        oldFault(lines(24) + "1000:stop;", 2, past);
        oldFault(lines(24) + "25:stop;", 3, past);
        oldFault("1:set a=1+2+3+4+5+6+10000;", 2, 20);
        oldFault("1:set 10000=1;", 1, 6);
        oldFault("1:10000;", 1, 2);
        oldFault("1:if 10000<1 go 1;", 1, 5);
        newFault("10000", 1, 0);
        newFault("else{10000=1;}", 1, 5);
        newFault("when a<1 and b<1 and c<1 and d<1 and 10000<1{}", 2, 37);
    }

    /** The first FAULT by its place, whatever stands behind it. */
    private static void firstByPlace() {
        oldFault("1000:? 2", 2, 0);
        oldFault("1:set a=10000?", 2, 8);
        oldFault("1:? 1000", 1, 2);
        oldFault("1:set a=1+2+3+4+5+6+7+10000;?", 3, 20);
        oldFault("5:stop;4:?", 2, 7);
        oldFault("? 0:", 1, 0);
        newFault("else{a=10000;a=1;}?", 2, 7);
        newFault("else{a=1;a=10000;}", 2, 9);
        newFault("when 1+2+3+4+5+6+a+10000<1{}", 3, 17);
        newFault("when a<10000 and ?{}", 2, 7);
        newFault("else?10000", 1, 4);
    }

    /** Where a TOKEN is missing, the end's place: behind the last byte, blanks too. */
    private static void theEndsPlace() {
        for (String part : new String[] {"1", "1:", "1:set", "1:set a", "1:set a=", "1:set a=-", "1:set a=1", "1:set a=1+",
            "1:set a=2*", "1:set a=2*b", "1:if", "1:if a", "1:if a<", "1:if a<1", "1:if a<1 go", "1:if a<1 go 1", "1:go",
            "1:go 1", "1:stop", "1:stop;2"}) {
            oldFault(part, 1, part.length());
            oldFault(part + "  \n", 1, part.length() + 3);
        }
        for (String part : new String[] {"when", "when a", "when a<", "when a<1", "when a<1 and", "when a<1{", "else", "else{",
            "else{a", "else{a=", "else{a=-", "else{a=1", "else{a=1;", "else{a=1;b"}) {
            newFault(part, 1, part.length());
            newFault(part + "\n ", 1, part.length() + 2);
        }
        oldFault("1:" + " ".repeat(598), 1, 600);
        newFault("else" + "\n".repeat(596), 1, 600);
    }

    /** Promise 4: -4: a FAULT (the text ahead stays). */
    private static void faultyOldLeaves() {
        CarriedWorks x = new CarriedWorks();
        Check.old(x, 0, "3:set a=5;4:go 6;");
        x.span(0, 1, 0, 1);
        for (String text : new String[] {"3:set a=6;4:go 7;5", "?", lines(25), "1:set a=10000;", "1:stop;1:stop;"}) {
            c.due("a FAULT", Check.old(x, 0, text), -4);
            c.due("LINES", x.count(0), 2);
            c.due("STOPS 3", x.run(0, 1), 3);
            c.due("a", x.field(0), 5);
            c.due("b", x.field(1), 1);
            c.due("ways", x.ways(0), 1);
            c.due("its second LINE", x.way(0, 4, 1), 4);
        }
        c.due("an empty text is one", Check.old(x, 0, ""), 0);
        c.due("it STOPS 0", x.run(0, 1), 0);
        c.due("no LINES", x.count(0), 0);
    }

    /** Promise 5: -4 likewise; it is as it was. */
    private static void faultyNewLeaves() {
        CarriedWorks x = new CarriedWorks();
        x.old(0);
        Check.renew(x, 0, "when a=1{}else{b=5;}");
        Check.sheet(x, 0);
        x.night(0, 0);
        for (String text : new String[] {"else{b=6;}?", "?", "when 1=1{}".repeat(13), "else{b=10000;}", "else{b=1;b=1;}"}) {
            c.due("a FAULT", Check.renew(x, 0, text), -4);
            c.due("CASES", x.count(1), 2);
            c.due("runNew", x.runNew(0, 0), 0);
            c.due("the second CASE", x.did(), 1);
            c.due("b", x.field(1), 5);
        }
        c.due("the NIGHT stands", x.live(0), 0);
    }

    /** Promises 4 and 5: the TAPE is empty then; -2: it stays. */
    private static void emptyTapeBehindReading() {
        CarriedWorks x = new CarriedWorks();
        Check.tape(x, "1:stop;");
        x.old(-1);
        x.renew(8);
        c.due("it stays", x.count(5), 7);
        c.due("it is read", x.old(7), 1);
        c.due("empty", x.count(5), 0);
        c.due("an empty text in its place", x.old(7), 0);
        Check.tape(x, "else{}");
        c.due("it is no OLD text", x.old(7), -4);
        c.due("empty", x.count(5), 0);
        c.due("no CASES", x.renew(7), 0);
        Check.tape(x, "1:stop;");
        c.due("it is BESIDE", x.old(7), -2);
        c.due("it stays", x.count(5), 7);
        c.due("it is no NEW text", x.renew(7), -4);
        c.due("empty", x.count(5), 0);
    }

    private static void statesOfTexts() {
        CarriedWorks x = new CarriedWorks();
        c.due("the first PROGRAM", Check.old(x, 0, "1:stop;"), 1);
        c.due("the last PROGRAM", Check.old(x, 7, "1:stop;"), 1);
        c.due("OLD once more", Check.old(x, 7, "1:stop;2:stop;"), 2);
        c.due("renew an OLD one", Check.renew(x, 7, "else{}"), 1);
        c.due("BESIDE", x.state(7), 1);
        c.due("renew one that is BESIDE", Check.renew(x, 7, "else{}"), 1);
        c.due("BESIDE", x.state(7), 1);
        c.due("no old() then", x.old(7), -2);
        Check.sheet(x, 0, 0);
        x.night(7, 0);
        x.live(7);
        c.due("LIVE", x.renew(7), -2);
        c.due("LIVE", x.old(7), -2);
        x.back(7);
        c.due("BACK", x.renew(7), -2);
        c.due("BACK", x.old(7), -2);
        x.live(7);
        x.retire(7);
        c.due("RETIRED", x.renew(7), -2);
        c.due("RETIRED", x.old(7), -2);
        c.due("its CASE stays", x.count(1), 1);
        c.due("no PROGRAM", x.old(8), -2);
        c.due("no PROGRAM", x.renew(-1), -2);
    }
}
