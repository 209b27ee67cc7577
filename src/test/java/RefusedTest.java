import java.util.List;

/**
 * Every refusal of promises 1 to 40: each number too small and too large by one and by far, of several the first one told,
 * and nothing is changed by it.
 */
public final class RefusedTest {
    private static final Check CHECK = new Check("RefusedTest");
    private static final int MOST_CALLS = 150;
    /** What is no number of a house of six bits; of its fireplaces 3, 4, 5; of a sheet. */
    private static final String NO_BIT = "{-1|6|9|10|LEAST|MOST}", NO_FIREPLACE = "{-1|0|1|2|6|10|LEAST|MOST}";
    private static final String NO_SHEET = "{-1|4|LEAST|MOST}", NO_HUNDRED = "{-1|100|LEAST|MOST}", NO_YES = "{-1|2|LEAST|MOST}";

    private static List<String> making;
    private static List<Long> untouched;

    private RefusedTest() {
    }

    public static void main(String[] args) {
        on(Watch.rich());
        law();
        bits();
        rods();
        fires();
        burns();
        burnsMore();
        told();
        lots();
        host();
        hostMore();
        on(Watch.full());
        full();
        on(Watch.fresh());
        empty();
        ofEmptySheets();
        CHECK.end();
    }

    private static void on(List<String> by) {
        making = by;
        untouched = Watch.all(by, Watch.fresh());
    }

    /** Each of the calls answers so, and behind all of them everything is as it was. */
    private static void refused(long due, String... patterns) {
        List<String> calls = Script.each(patterns);
        for (int from = 0; from < calls.size(); from += MOST_CALLS) {
            List<String> some = calls.subList(from, Math.min(calls.size(), from + MOST_CALLS));
            UpTheFlue x = Watch.made(making);
            for (String call : some) {
                CHECK.due(call, Script.call(x, call), due);
            }
            CHECK.isTrue("nothing is changed by " + some, Watch.all(making, some).equals(untouched));
        }
    }

    private static void law() {
        refused(-2, "count({-1|6|LEAST|MOST})");
        refused(-2, "feed({0|6|-1|LEAST|MOST}, {97|256}, {0|-1}, 0, 0, {0|-1})");
        refused(-2, "feed({1|5}, {-1|256|LEAST|MOST}, 0, 0, 0, 0)", "feed({1|5}, 0, {-1|256|LEAST|MOST}, 0, 0, 0)",
            "feed({1|5}, 0, 0, {-1|256|LEAST|MOST}, 0, 0)", "feed({1|5}, 0, 0, 0, {-1|256|LEAST|MOST}, 0)",
            "feed({1|5}, 0, 0, 0, 0, {-1|256|LEAST|MOST})");
        refused(-2, "force({-1|3|5|6|LEAST|MOST})");
        refused(-5, "asks({0|-1|3}, " + NO_BIT + ", {0|-1|10}, {0|-1|10})");
        refused(-7, "asks({-1|3|LEAST|MOST}, {0|5}, {0|10}, {0|-1})", "asks({0|1|2}, {0|5}, {-1|10|LEAST|MOST}, {0|9|10})",
            "asks({0|1|2}, {0|5}, {0|9}, {-1|10|LEAST|MOST})");
    }

    private static void bits() {
        refused(-2, "bit({-2|6|9|10|LEAST|MOST}, {0|6}, {11|70}, {0|50})", "bit({-1|5}, {-1|6|LEAST|MOST}, {11|9}, {0|-1})",
            "bit({-1|5}, {0|5}, {9|70|0|-1|-11|100|LEAST|MOST}, {0|50})",
            "bit({-1|5}, {0|5}, {10|69}, {-1|50|-10|99|100|LEAST|MOST})");
        refused(-5, "mend(" + NO_BIT + ", {0|-1|6}, {0|-1|10})");
        refused(-7, "mend({0|5}, {-1|6|LEAST|MOST}, {0|9|10})", "mend({0|5}, {0|5}, {-1|10|LEAST|MOST})");
        refused(-5, "lay(" + NO_BIT + ", {0|-1|100})");
        refused(-7, "lay({0|5}, {-1|100|LEAST|MOST})");
        refused(-5, "told(" + NO_BIT + ", {0|-1|9})");
        refused(-7, "told({0|5}, {-1|9|LEAST|MOST})");
        refused(-2, "all(" + NO_YES + ")");
        refused(-5, "flue(" + NO_BIT + ", {0|-1|4})");
        refused(-7, "flue({0|5}, {-1|4|LEAST|MOST})");
        refused(-5, "join(" + NO_BIT + ", {0|-1|6})", "join({0|5}, " + NO_BIT + ")");
    }

    /** By 60 rods they are through: that -1 comes behind the refusal of what is asked, too. */
    private static void rods() {
        refused(-5, "rod(" + NO_FIREPLACE + ", {1|0|61}, {0|-1|2})");
        refused(-7, "rod({3|5}, {0|61|-1|LEAST|MOST}, {0|1|2})", "rod({3|5}, {1|60}, " + NO_YES + ")");
        refused(-5, "push(" + NO_FIREPLACE + ", {0|-1|100}, {0|-1|2})");
        refused(-7, "push({3|5}, " + NO_HUNDRED + ", {0|1|2})", "push({3|5}, {0|99}, " + NO_YES + ")");
        refused(-5, "sweep(" + NO_FIREPLACE + ", {0|99|-1|100})");
        refused(-7, "sweep({3|5}, " + NO_HUNDRED + ")");
        refused(-5, "needs(" + NO_FIREPLACE + ")");
    }

    private static void fires() {
        refused(-5, "fire(" + NO_FIREPLACE + ", {1|0|21}, {0|-1|100})");
        refused(-7, "fire({3|5}, {0|21|-1|LEAST|MOST}, {0|99|100})", "fire({3|5}, {1|20}, " + NO_HUNDRED + ")");
        refused(-5, "smoke(" + NO_FIREPLACE + ", {0|-1|6}, {0|1|-1|2})", "smoke({3|5}, " + NO_BIT + ", {0|1|-1|2})");
        refused(-7, "smoke({3|5}, {0|3|4}, " + NO_YES + ")");
        refused(-100000, "draw(" + NO_FIREPLACE + ", {0|-1|100})", "draw({3|5}, " + NO_HUNDRED + ")");
        refused(-2, "smokes(" + NO_HUNDRED + ")");
    }

    private static void burns() {
        refused(UpTheFlue.NO, "fine(" + NO_FIREPLACE + ", {0|-1|41}, {0|-1|100})",
            "fine({3|5}, {-1|41|LEAST|MOST}, {0|99|100})", "fine({3|5}, {0|40}, " + NO_HUNDRED + ")");
        refused(-5, "when(" + NO_FIREPLACE + ", {0|-1|100}, {0|-1|100})");
        refused(-7, "when({3|5}, " + NO_HUNDRED + ", {0|99|100})", "when({3|5}, {0|99}, " + NO_HUNDRED + ")");
        refused(-5, "often(" + NO_FIREPLACE + ", {0|-1}, {0|100}, {0|-1|100})");
        refused(-7, "often({3|5}, " + NO_HUNDRED + ", {0|100}, {0|-1})", "often({3|5}, {0|99}, " + NO_HUNDRED + ", {0|99|100})",
            "often({3|5}, {0|99}, {0|99}, " + NO_HUNDRED + ")");
    }

    private static void burnsMore() {
        refused(-2, "round(" + NO_HUNDRED + ", {0|99|100}, {0|1|2})", "round({0|99}, " + NO_HUNDRED + ", {0|1|2})",
            "round({0|99}, {0|99}, " + NO_YES + ")");
        refused(-5, "ball({-1|1|2|3|5|6|10|LEAST|MOST}, {0|-1|10}, {0|-1|3})");
        refused(-7, "ball({0|4}, {-1|10|LEAST|MOST}, {0|1|2|3})", "ball({0|4}, {0|9}, {-1|3|LEAST|MOST})");
    }

    private static void told() {
        refused(-2, "judge(" + NO_SHEET + ", {3|-1|0|6})", "whose(" + NO_SHEET + ")", "laws(" + NO_SHEET + ", {3|-1|0|6})",
            "blocked(" + NO_SHEET + ", {3|-1|0|6}, {0|-1|2})", "film(" + NO_SHEET + ", {3|-1|0|6}, {0|-1|41})");
        refused(-11, "judge(3, {3|-1|0|6})", "whose(3)", "laws(3, {3|-1|0|6})", "blocked(3, {3|-1|0|6}, {0|-1|2})");
        refused(-5, "judge({0|1|2}, " + NO_FIREPLACE + ")", "laws({0|1|2}, " + NO_FIREPLACE + ")",
            "blocked({0|1|2}, " + NO_FIREPLACE + ", {0|1|-1|2})", "film({0|3}, " + NO_FIREPLACE + ", {0|40|-1|41})");
        refused(-7, "blocked({0|1|2}, {3|5}, " + NO_YES + ")", "film({0|3}, {3|5}, {-1|41|LEAST|MOST})");
    }

    /** By no fire nothing burns: that -1 comes behind the refusal of a number, too. */
    private static void lots() {
        refused(-5, "drawn({0|-1|100000}, " + NO_FIREPLACE + ", {0|-1|41}, {0|-1|100})");
        refused(-7, "drawn({-1|100000|LEAST|MOST}, {3|5}, {0|40|41}, {0|99|100})",
            "drawn({0|99999}, {3|5}, {-1|41|LEAST|MOST}, {0|99|100})", "drawn({0|99999}, {3|5}, {0|40}, " + NO_HUNDRED + ")");
        refused(UpTheFlue.NO, "odds({0|-1}, " + NO_FIREPLACE + ", {0|41}, {0|100}, {0|2})",
            "odds({-1|100000|LEAST|MOST}, {3|5}, {0|40|41}, {0|100}, {0|1})",
            "odds({0|99999}, {3|5}, {-1|41|LEAST|MOST}, {0|100}, {0|1})",
            "odds({0|99999}, {3|5}, {0|40}, " + NO_HUNDRED + ", {0|1})", "odds({0|99999}, {3|5}, {0|40}, {0|99}, " + NO_YES + ")");
    }

    private static void host() {
        refused(-2, "sheet(" + NO_SHEET + ", {-1|0|3}, {0|-1|41})", "sheet({0|3}, {-2|3|LEAST|MOST}, {0|-1|41})",
            "sheet({0|1|3}, {0|1|2}, {41|42|MOST})");
        refused(-14, "sheet({0|1|2|3}, {0|1|2}, {-1|-2|LEAST})");
        refused(-2, "cell(" + NO_SHEET + ", {0|-1|40}, 5)");
        refused(-11, "cell(3, {0|-1|40|LEAST|MOST}, 5)");
        refused(-12, "cell(0, {-1|6|40|LEAST|MOST}, 5)", "cell(1, {-1|8|40|LEAST|MOST}, 5)", "cell(2, {-1|9|40|LEAST|MOST}, 5)");
        refused(-2, "copy(" + NO_SHEET + ", {0|-1}, {0|3|-1|4}, {0|-1}, {1|-1})",
            "copy({0|3}, {0|-1}, " + NO_SHEET + ", {0|-1}, {1|-1})");
        refused(-11, "copy(3, {0|-1}, {0|1|2|3}, {0|-1}, {0|1|-1})", "copy({0|1|2}, {0|-1}, 3, {0|-1}, {0|1|-1})");
        refused(-13, "copy(0, {0|-1|41}, {1|2}, {0|-1|41}, {0|1|-1})", "copy(1, {0|-1|41}, {0|2}, {0|-1|41}, {0|1|-1})",
            "copy(2, {0|-1|41}, {0|1}, {0|-1|41}, {0|1|-1})");
    }

    private static void hostMore() {
        refused(-12, "copy(2, {0|9}, 2, {0|9}, {-1|10|LEAST|MOST})", "copy(2, {-1|9|10|LEAST|MOST}, 2, 0, {1|9|40})",
            "copy(2, 0, 2, {-1|9|10|LEAST|MOST}, {1|9|40})", "copy(2, 1, 2, 0, {9|40|MOST})", "copy(2, 0, 2, 1, {9|40|MOST})",
            "copy(2, {-1|10|LEAST|MOST}, 2, {0|9|MOST}, 0)", "copy(2, {0|9|MOST}, 2, {-1|10|LEAST|MOST}, 0)");
        refused(-2, "bitsBy(" + NO_SHEET + ", {2|-1|3}, {0|-1|40}, {1|0|-1|11})",
            "bitsBy({2|3}, {-1|3|LEAST|MOST}, {0|-1|40}, {1|0|-1|11})", "bitsBy({2|3}, {0|2}, {0|-1|40}, {-1|11|LEAST|MOST})");
        refused(-11, "bitsBy(3, {0|1|2}, {0|-1|40}, {0|1|10})");
        refused(-13, "bitsBy(0, {1|2}, {0|-1|40}, {0|1|10})", "bitsBy(1, {0|2}, {0|-1|40}, {0|1|10})",
            "bitsBy(2, {0|1}, {0|-1|40}, {0|1|10})");
        // Nothing stood ahead of the place that is outside.
        refused(-12, "bitsBy(2, 2, {-1|6|7|8|9|10|40|LEAST|MOST}, {1|2|10})", "bitsBy(0, 0, {-1|3|6|40|LEAST|MOST}, {1|10})");
        refused(-2, "taken({0|-1|20|15|19}, {-1|7|LEAST|MOST})");
        refused(-12, "taken({-1|20|LEAST|MOST}, {0|5|6})");
        refused(-11, "taken({6|9|16|19}, {0|5|6})");
        refused(-13, "taken(0, {1|2|3|4|5|6})", "taken(1, {1|3|4|5|6})", "taken(2, {1|2|3|4|6})", "taken(3, {1|3|5|6})",
            "taken(4, {2|3|4|5|6})", "taken(5, {1|3|4|5|6})", "taken({10|11|12|13|14|15}, {0|1|2|3|4|5})");
    }

    /** Ten bits, six texts, 160 bytes: FULL, behind what else is wrong. */
    private static void full() {
        refused(-4, "bit({-1|0|9}, {0|5}, {10|69}, {0|49})");
        refused(-2, "bit({-2|10|LEAST|MOST}, {0|6}, {11|70}, {0|50})", "bit({-1|9}, {-1|6}, {11|9}, {0|-1})",
            "bit({-1|9}, 0, {9|70}, {0|50})", "bit({-1|9}, 0, 11, {-1|50})");
        refused(-4, "text()", "feed({1|5}, {0|255}, 0, 0, 0, 255)");
        refused(-2, "feed({0|6}, 0, 0, 0, 0, 0)", "feed(1, 256, 0, 0, 0, 0)", "feed(1, 0, 0, 0, 0, -1)");
        refused(-2, "force(6)");
        refused(-5, "told(10, 0)", "rod(0, 1, 0)", "rod(10, 1, 0)", "ball({1|8|10}, 0, 0)");
        refused(-3, "back()");
    }

    private static void empty() {
        refused(-5, "asks(0, 0, 0, 0)", "mend(0, 0, 0)", "lay(0, 0)", "told(0, 0)", "flue(0, {0|1|2|3})", "join(0, 0)",
            "rod(0, 1, {0|1})", "push(0, 0, {0|1})", "sweep(0, 0)", "needs(0)", "fire(0, 1, 0)", "smoke(0, 0, {0|1})",
            "when(0, 0, 0)", "often(0, 0, 0, 0)", "ball(0, 0, {0|1|2})", "film({0|3}, 0, 0)", "drawn(0, 0, 0, 0)");
        refused(-100000, "draw(0, 0)");
        refused(UpTheFlue.NO, "fine(0, 0, 0)", "odds(0, 0, 0, 0, {0|1})");
        refused(-2, "bit({-2|0|9}, 0, 11, 0)", "force({-1|1})", "round(100, 0, 0)", "round(0, -1, {0|1})", "round(0, 0, 2)");
        refused(-3, "back()");
        refused(-11, "judge({0|1|2|3}, 0)", "whose({0|1|2|3})", "laws({0|1|2|3}, 0)", "blocked({0|1|2|3}, 0, 0)",
            "cell({0|1|2|3}, 0, 0)", "copy({0|1|2|3}, 0, {0|1|2|3}, 0, 0)", "bitsBy({0|1|2|3}, {0|1|2}, 0, 0)");
        refused(-11, "taken({0|9|10|19}, {0|6})");
    }

    /** Sheets of no number: each place is outside, but they are there. */
    private static void ofEmptySheets() {
        on(Script.each("sheet({0|1}, 0, 0)", "sheet(2, 2, 0)"));
        refused(-12, "cell({0|1|2}, {0|-1|1}, 7)", "copy(0, 0, {0|1}, 0, 1)", "copy(0, {-1|1}, 1, 0, 0)", "copy(0, 0, 1, {-1|1}, 0)",
            "copy(2, 0, 2, 0, {-1|1})", "bitsBy(0, 0, {0|-1|1}, 1)");
        refused(-13, "copy(0, 0, 2, 0, 0)", "copy(2, 0, 1, 0, 0)");
        refused(-5, "judge({0|1|2}, 0)", "laws({0|1|2}, 0)", "blocked({0|1|2}, 0, 0)");
    }
}
