import java.util.ArrayList;
import java.util.List;

/** Objects as tests want them, and all that can be asked of one: bits, laws, tape, image, sheets number by number. */
final class Watch {
    private static final String BITS = "{0|1|2|3|4|5|6|7|8|9}";
    private static final String CELLS = "{0|1|2|3|4|5|6|7|8}";

    private Watch() {
    }

    /** No call was made on it. */
    static List<String> fresh() {
        return new ArrayList<>();
    }

    /**
     * Six bits (fireplaces 3, 4, 5; pots 0, 4; 1 and 2 below 0, 3 below 2, 5 below 1), bit 5 and much else come since the
     * image; three texts, 1 the law; three bytes on the tape; sheets: 0 six bytes, 1 eight shorts, 2 nine ints, 3 missing.
     */
    static List<String> rich() {
        List<String> calls = Script.each("bit(-1, 0, 29, 0)", "bit(0, 3, 37, 12)", "bit(0, 5, 28, 23)", "bit(2, 4, 19, 1)",
            "bit(-1, 1, 45, 4)", "lay(0, 20)", "lay(1, 31)", "lay(2, 42)", "lay(3, 53)", "lay(4, 64)", "image()");
        calls.addAll(Script.reading("adds 3 + wet;heavy soot - 9;burns soot - 30;"));
        calls.addAll(Script.reading("adds heat;heavy soot;burns 4;"));
        calls.addAll(Script.each("force(1)", "mend(1, 2, 3)", "lay(0, 21)", "bit(1, 2, 33, 15)", "lay(5, 9)"));
        calls.addAll(Script.feeding("add"));
        calls.addAll(Script.each("sheet(0, 0, 6)", "cell(0, 0, -1)", "cell(0, 2, 3)", "cell(0, 4, 7)", "cell(0, 5, 11)"));
        calls.addAll(Script.each("sheet(1, 1, 8)", "cell(1, 1, 3)", "cell(1, 3, -1)", "cell(1, 6, 11)", "cell(1, 7, 7)"));
        calls.addAll(Script.each("film(2, 5, 9)", "cell(2, 4, 7)", "cell(2, 8, 3)"));
        return calls;
    }

    /** Ten bits, six texts, a full tape. */
    static List<String> full() {
        List<String> calls = Script.each("bit(-1, 0, 29, 0)", "bit({0|1|2|3|4|5|6|7}, 4, 39, 3)", "bit(-1, 5, 19, 2)", "lay(3, 50)");
        for (int t = 1; t <= 5; t++) {
            calls.addAll(Script.reading("adds " + t + ";heavy soot;burns 5;"));
        }
        calls.add("force(4)");
        calls.addAll(Script.feeding("adds 1".repeat(26) + "adds"));
        return calls;
    }

    static UpTheFlue made(List<String> by) {
        UpTheFlue x = new UpTheFlue();
        Script.all(x, by);
        return x;
    }

    /** All answers of an object made so, on which some calls were made then; each list of questions has an object of its own. */
    static List<Long> all(List<String> by, List<String> then) {
        List<Long> answers = new ArrayList<>(butTheImage(by, then));
        answers.addAll(answers(by, then, Script.each("back()", "count({0|1|2|3|4|5})", "told(" + BITS + ", {0|1|2|3|4|5|6|7|8})")));
        return answers;
    }

    static List<Long> butTheImage(List<String> by, List<String> then) {
        List<Long> answers = new ArrayList<>();
        answers.addAll(answers(by, then, Script.each("count({0|1|2|3|4|5})", "all({0|1})",
            "told(" + BITS + ", {0|1|2|3|4|5|6|7|8})", "flue(" + BITS + ", {1|2})")));
        List<String> laws = new ArrayList<>();
        for (int t = 0; t < 6; t++) {
            laws.add("force(" + t + ")");
            laws.addAll(Script.each("asks({0|1|2}, {0|3|4|5}, 3, 4)"));
        }
        answers.addAll(answers(by, then, laws));
        List<String> tape = Script.reading("s 1;heavy 2;burns 3;");
        tape.addAll(Script.each("force(3)", "asks({0|1|2}, 0, 0, 0)"));
        answers.addAll(answers(by, then, tape));
        for (int s = 0; s < 4; s++) {
            answers.addAll(answers(by, then, shapeOf(s)));
            for (int sort = 0; sort < 3; sort++) {
                answers.addAll(answers(by, then, numbersOf(s, sort)));
            }
        }
        return answers;
    }

    /** Its sort, its size, what it tells. */
    private static List<String> shapeOf(int s) {
        List<String> calls = Script.each("bitsBy(" + s + ", {0|1|2}, 0, 0)", "whose(" + s + ")", "judge(" + s + ", {3|4|5})");
        for (int i = 0; i <= 40; i++) {
            calls.add("copy(" + s + ", " + i + ", " + s + ", " + i + ", 0)");
        }
        return calls;
    }

    /** Which of a few numbers stands in each cell: told as the one rod up 4, where heavy is the soot. */
    private static List<String> numbersOf(int s, int sort) {
        int probe = s == 3 ? 2 : 3;
        List<String> calls = Script.each("force(2)", "mend(4, 0, 0)", "sheet(" + probe + ", " + sort + ", 1)");
        for (String copied : Script.each("copy(" + s + ", " + CELLS + ", " + probe + ", 0, 1)")) {
            calls.add(copied);
            for (int number : new int[] {0, 3, 7, 11}) {
                calls.add("lay(4, " + number + ")");
                calls.add("judge(" + probe + ", 4)");
            }
        }
        return calls;
    }

    private static List<Long> answers(List<String> by, List<String> then, List<String> questions) {
        if (by.size() + then.size() + questions.size() > 512) {
            throw new IllegalStateException("more than 512 calls");
        }
        UpTheFlue x = made(by);
        Script.all(x, then);
        List<Long> answers = new ArrayList<>();
        for (String question : questions) {
            answers.add(Script.call(x, question));
        }
        return answers;
    }
}
