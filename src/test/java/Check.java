/** Counts the answers of a test and tells those that are not as due. */
final class Check {
    private final String name;
    private int many, wrong;

    Check(String name) {
        this.name = name;
    }

    void due(String call, long got, long want) {
        many++;
        if (got != want) {
            wrong++;
            System.out.println(name + ": " + call + " answered " + got + ", due is " + want);
        }
    }

    void isTrue(String what, boolean holds) {
        many++;
        if (!holds) {
            wrong++;
            System.out.println(name + ": not so: " + what);
        }
    }

    /** Ends the test: with exit code 1, if an answer was wrong. */
    void end() {
        System.out.println(name + ": " + many + " answers, " + wrong + " not as due");
        if (wrong != 0 || many == 0) {
            System.exit(1);
        }
    }

    /** Feeds a text, byte by byte. */
    static void feed(UpTheFlue x, String bytes) {
        for (int i = 0; i < bytes.length(); i++) {
            x.feed(1, bytes.charAt(i), 0, 0, 0, 0);
        }
    }

    /** Feeds a text and has it read: the answer of text(). */
    static int text(UpTheFlue x, String bytes) {
        feed(x, bytes);
        return x.text();
    }
}
