import java.util.Random;

/** Texts by chance: mostly good ones, some with a fault. */
final class Texts {
    private final Random chance;

    Texts(Random chance) {
        this.chance = chance;
    }

    private boolean oneIn(int n) {
        return chance.nextInt(n) == 0;
    }

    private String blank() {
        return oneIn(8) ? " " : oneIn(30) ? "\n" : "";
    }

    private char letter() {
        return (char) ('a' + (oneIn(5) ? chance.nextInt(8) : chance.nextInt(4)));
    }

    private int number() {
        return oneIn(30) ? 9999 : oneIn(40) ? 10000 : oneIn(8) ? chance.nextInt(9999) : chance.nextInt(6);
    }

    private String term() {
        switch (chance.nextInt(3)) {
            case 0: return "" + number();
            case 1: return "" + letter();
            default: return number() + blank() + "*" + blank() + letter();
        }
    }

    String sum() {
        StringBuilder sum = new StringBuilder(oneIn(5) ? "-" : "");
        int terms = oneIn(40) ? 7 : oneIn(20) ? 6 : 1 + chance.nextInt(3);
        sum.append(term());
        for (int i = 1; i < terms; i++) {
            sum.append(blank()).append(oneIn(2) ? "+" : "-").append(blank()).append(term());
        }
        return sum.toString();
    }

    private String op() {
        return "" + "<>=".charAt(chance.nextInt(3));
    }

    String old() {
        int lines = oneIn(25) ? 24 + chance.nextInt(3) : oneIn(10) ? 0 : 1 + chance.nextInt(9);
        int[] numbers = new int[lines];
        int number = 0;
        for (int i = 0; i < lines; i++) {
            number += oneIn(150) ? 0 : 1 + chance.nextInt(lines > 12 ? 3 : 12);
            numbers[i] = number;
        }
        StringBuilder text = new StringBuilder(blank());
        for (int i = 0; i < lines; i++) {
            int target = oneIn(14) ? chance.nextInt(1002) : numbers[oneIn(3) ? chance.nextInt(lines) : i + chance.nextInt(lines - i)];
            text.append(numbers[i]).append(blank()).append(":").append(blank()).append(act(target, lines > 12)).append(blank()).append(";").append(blank());
        }
        return spoilt(text);
    }

    /** An OLD text that asks about its first FIELDS often, and has loops. */
    String branching() {
        int lines = 3 + chance.nextInt(12);
        StringBuilder text = new StringBuilder();
        for (int i = 1; i <= lines; i++) {
            int target = oneIn(25) ? 900 : oneIn(8) ? 1 + chance.nextInt(lines) : Math.min(lines, i + 1 + chance.nextInt(4));
            char asked = (char) ('a' + chance.nextInt(3));
            String act = oneIn(2) ? "if " + asked + op() + chance.nextInt(4) + " go " + target
                    : oneIn(12) ? "stop" : oneIn(12) ? "go " + target
                    : oneIn(15) ? "set " + letter() + "=" + 9000 + "*" + letter() : "set " + letter() + "=" + sum();
            text.append(i).append(":").append(act).append(";");
        }
        return text.length() > 600 ? "" : text.toString();
    }

    private String act(int target, boolean brief) {
        int kind = brief ? 6 + chance.nextInt(4) : chance.nextInt(11);
        if (kind < 5) {
            return "set " + letter() + blank() + "=" + sum();
        }
        if (kind < 8) {
            return "if " + letter() + blank() + op() + blank() + chance.nextInt(7) + blank() + "go " + target;
        }
        return kind == 8 ? "stop" : kind == 9 ? "go " + target : "set " + letter() + "=" + letter() + "+1";
    }

    String anew() {
        int cases = oneIn(25) ? 11 + chance.nextInt(3) : oneIn(10) ? 0 : 1 + chance.nextInt(4);
        StringBuilder text = new StringBuilder(blank());
        for (int c = 0; c < cases; c++) {
            boolean last = c == cases - 1 ? oneIn(2) : oneIn(50);
            text.append(last ? "else" : "when " + tests(cases > 9)).append(blank()).append("{").append(blank());
            int puts = cases > 9 ? 0 : chance.nextInt(4);
            int first = chance.nextInt(8);
            for (int i = 0; i < puts; i++) {
                int f = oneIn(60) ? first : (first + 3 * i) % 8;
                text.append((char) ('a' + f)).append(blank()).append("=").append(sum()).append(";");
            }
            text.append("}").append(blank());
        }
        return spoilt(text);
    }

    private String tests(boolean brief) {
        StringBuilder tests = new StringBuilder();
        int n = brief ? 1 : oneIn(30) ? 5 : 1 + chance.nextInt(3);
        for (int i = 0; i < n; i++) {
            tests.append(i == 0 ? "" : " and ").append(brief ? "a" : oneIn(2) ? "" + letter() : sum()).append(op()).append(chance.nextInt(7));
        }
        return tests.toString();
    }

    private String spoilt(StringBuilder text) {
        if (text.length() > 0 && oneIn(6)) {
            int at = chance.nextInt(text.length());
            String signs = "abhiz09:;=<>+-*{} \n?A\t\0\u00e9";
            switch (chance.nextInt(4)) {
                case 0: text.deleteCharAt(at); break;
                case 1: text.setLength(at); break;
                case 2: text.setCharAt(at, signs.charAt(chance.nextInt(signs.length()))); break;
                default: text.insert(at, signs.charAt(chance.nextInt(signs.length()))); break;
            }
        }
        return text.length() > 600 ? text.substring(0, 600) : text.toString();
    }
}
