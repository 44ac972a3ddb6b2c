/** What all tests use: answers held against those that are due, and texts fed to the TAPE. */
final class Check {
    private final String topic;
    private int asked;
    private int wrong;

    Check(String topic) {
        this.topic = topic;
    }

    void due(String call, long got, long want) {
        asked++;
        if (got != want) {
            wrong++;
            if (wrong <= 40) {
                System.out.println(topic + ": " + call + " answered " + got + ", due is " + want);
            }
        }
    }

    void holds(String what, boolean so) {
        due(what, so ? 1 : 0, 1);
    }

    /** Ends the test with exit code 1 if an answer was wrong. */
    void close() {
        System.out.println(topic + ": " + asked + " answers, " + wrong + " wrong");
        if (wrong > 0 || asked == 0) {
            System.exit(1);
        }
    }

    /** Empties the TAPE and feeds a text, each char a byte. */
    static void tape(CarriedWorks x, String text) {
        x.end(0);
        StringBuilder full = new StringBuilder(text);
        while (full.length() % 20 != 0) {
            full.append(' ');
        }
        for (int at = 0; at < full.length(); at += 20) {
            x.feed(four(full, at), four(full, at + 4), four(full, at + 8), four(full, at + 12), four(full, at + 16));
        }
        x.end(text.length());
    }

    private static int four(CharSequence text, int at) {
        int four = 0;
        for (int i = 0; i < 4; i++) {
            four = four << 8 | text.charAt(at + i) & 255;
        }
        return four;
    }

    static int old(CarriedWorks x, int program, String text) {
        tape(x, text);
        return x.old(program);
    }

    static int renew(CarriedWorks x, int program, String text) {
        tape(x, text);
        return x.renew(program);
    }

    /** A SLOT with a row of ints of WIDTH 2. */
    static void sheet(CarriedWorks x, int slot, int... numbers) {
        x.sheet(slot, 2, numbers.length);
        for (int i = 0; i < numbers.length; i++) {
            x.write(slot, i, numbers[i]);
        }
    }
}
