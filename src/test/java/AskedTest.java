import java.util.List;

/** What is asked changes nothing: fires and sweeping are in thought there; what is done is seen, so that this test isn't blind. */
public final class AskedTest {
    private static final Check CHECK = new Check("AskedTest");
    private static final int MOST_CALLS = 150;
    private static final String BITS = "{0|1|2|3|4|5}", FIREPLACES = "{3|4|5}";

    private static List<String> making;
    private static List<Long> untouched;

    private AskedTest() {
    }

    public static void main(String[] args) {
        on(Watch.rich());
        bitsAndRods();
        firesInThought();
        sheetsAndLots();
        actions();
        on(Watch.full());
        asked("round({0|55|99}, {0|50|99}, {0|1})", "often(9, 99, 99, {0|99})", "fine(9, 40, 99)", "when(9, 99, 99)",
            "drawn(99999, 9, 40, 99)", "odds(99999, 9, 40, 99, {0|1})", "ball({0|9}, {0|9}, {0|1|2})", "needs({1|9})");
        on(Watch.fresh());
        asked("count({0|1|2|3|4|5})", "all({0|1})", "smokes({0|99})", "round({0|99}, {0|99}, {0|1})", "sheet({0|1|2|3}, -1, 0)",
            "force(0)");
        CHECK.end();
    }

    private static void on(List<String> by) {
        making = by;
        untouched = Watch.all(by, Watch.fresh());
    }

    private static void asked(String... patterns) {
        for (String pattern : patterns) {
            List<String> calls = Script.each(pattern);
            for (int from = 0; from < calls.size(); from += MOST_CALLS) {
                List<String> some = calls.subList(from, Math.min(calls.size(), from + MOST_CALLS));
                CHECK.isTrue("nothing is changed by " + pattern, Watch.all(making, some).equals(untouched));
                // The second answer is the first one's: what is kept within for one call does not tell in the next.
                UpTheFlue x = Watch.made(making);
                UpTheFlue other = Watch.made(making);
                Script.all(x, some);
                for (String call : some) {
                    CHECK.due(call + " again", Script.call(x, call), Script.call(other, call));
                }
            }
        }
    }

    private static void bitsAndRods() {
        asked("count({0|1|2|3|4|5})", "asks({0|1|2}, " + BITS + ", {0|9}, {0|9})", "told(" + BITS + ", {0|1|2|3|4|5|6|7|8})",
            "all({0|1})", "flue(" + BITS + ", {0|1|2|3})", "join(" + BITS + ", " + BITS + ")");
        asked("rod(" + FIREPLACES + ", {1|2|3|7|60}, {0|1})", "push(" + FIREPLACES + ", {0|20|50|99}, {0|1})",
            "needs(" + FIREPLACES + ")", "ball({0|4}, {0|5|9}, {0|1|2})");
    }

    private static void firesInThought() {
        asked("smoke(" + FIREPLACES + ", " + BITS + ", {0|1})", "draw(" + FIREPLACES + ", {0|99})", "smokes({0|50|99})");
        asked("fine(" + FIREPLACES + ", {0|1|40}, {0|99})", "when(" + FIREPLACES + ", {0|99}, {0|50|99})",
            "often(" + FIREPLACES + ", {0|99}, {0|99}, {0|50|99})", "round({0|99}, {0|50|99}, {0|1})");
    }

    private static void sheetsAndLots() {
        asked("judge({0|1|2}, " + FIREPLACES + ")", "whose({0|1|2})", "laws({0|1|2}, " + FIREPLACES + ")",
            "blocked({0|1|2}, " + FIREPLACES + ", {0|1})");
        asked("drawn({0|99999}, " + FIREPLACES + ", {0|1|40}, {0|99})", "odds({0|99999}, " + FIREPLACES + ", {0|40}, {0|99}, {0|1})");
        asked("taken({0|1|2|3|4|5}, {0|1|2|3|4|5|6})", "taken({10|11|12|13|14|15}, {0|6})", "bitsBy({0|1|2}, {0|1|2}, {0|40}, 0)",
            "copy({0|1|2}, {0|3}, {0|1|2}, {0|3}, 0)");
        // An image changes nothing but itself.
        List<String> image = Script.each("image()", "image()");
        CHECK.isTrue("nothing is changed by image()",
            Watch.butTheImage(making, image).equals(Watch.butTheImage(making, Watch.fresh())));
        CHECK.isTrue("it is another image", !Watch.all(making, image).equals(untouched));
    }

    private static void actions() {
        for (String done : Script.each("feed(1, 0, 0, 0, 0, 0)", "text()", "force({0|2})", "bit({-1|5}, 0, 10, 0)", "mend({0|5}, 4, 9)",
            "mend(4, 1, 5)", "lay({0|1|2|3|4|5}, 1)", "sweep({3|4}, 99)", "fire({3|4|5}, 1, 99)", "film({0|1|2|3}, 3, {0|9|40})",
            "back()", "sheet({0|1|2}, {-1|0|1|2}, {0|5|12})", "sheet(3, {0|1|2}, 1)", "cell(0, {0|5}, 0)", "cell(1, {1|7}, 0)",
            "cell(2, {4|8}, 0)", "copy(0, 4, 0, 1, 2)", "copy(1, 6, 1, 0, 2)", "copy(2, 7, 2, 3, 2)")) {
            CHECK.isTrue("it is seen that " + done + " was made", !Watch.all(making, List.of(done)).equals(untouched));
        }
    }
}
