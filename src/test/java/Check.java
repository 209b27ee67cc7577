/** Counts the answers of a test and tells those that are not as due. */
final class Check {
    private final String name;
    private int many, wrong;

    Check(String name) {
        this.name = name;
    }

    void due(String call, long got, long want) {
        many++;
        if (got != want) {
            wrong++;
            System.out.println(name + ": " + call + " answered " + got + ", due is " + want);
        }
    }

    void isTrue(String what, boolean holds) {
        many++;
        if (!holds) {
            wrong++;
            System.out.println(name + ": not so: " + what);
        }
    }

    /** Ends the test: with exit code 1, if an answer was wrong. */
    void end() {
        System.out.println(name + ": " + many + " answers, " + wrong + " not as due");
        if (wrong != 0 || many == 0) {
            System.exit(1);
        }
    }

    /** Feeds a text, byte by byte. */
    static void feed(UpTheFlue x, String bytes) {
        for (int i = 0; i < bytes.length(); i++) {
            x.feed(1, bytes.charAt(i), 0, 0, 0, 0);
        }
    }

    /** Feeds a text and has it read: the answer of text(). */
    static int text(UpTheFlue x, String bytes) {
        feed(x, bytes);
        return x.text();
    }

    /** A new object under the law of a text, which is its text 1. */
    static UpTheFlue under(String bytes) {
        UpTheFlue x = new UpTheFlue();
        if (text(x, bytes) != 1 || x.force(1) != 0) {
            throw new IllegalStateException("no law: " + bytes);
        }
        return x;
    }

    /** A flue of so many like bits in a house that has none, the last of them its fireplace. */
    static void flueOf(UpTheFlue x, int bits, int kind, int longWide, int bendMore) {
        for (int b = 0; b < bits; b++) {
            if (x.bit(b - 1, kind, longWide, bendMore) != b) {
                throw new IllegalStateException("no bit " + b);
            }
        }
    }

    /** A sheet becomes a row of these numbers. */
    static void tell(UpTheFlue x, int s, int sort, int... numbers) {
        int done = x.sheet(s, sort, numbers.length);
        for (int i = 0; i < numbers.length; i++) {
            done += x.cell(s, i, numbers[i]);
        }
        if (done != 1 + numbers.length) {
            throw new IllegalStateException("no sheet " + s);
        }
    }
}
