/** Promises 27 to 31: told rods: whether they are those of a flue, whose, by which text, what blocks it; a film of them. */
public final class ToldRodsTest {
    private static final Check CHECK = new Check("ToldRodsTest");
    private static final int[] NO_SHEET = {-1, 4, Integer.MIN_VALUE, Integer.MAX_VALUE};

    private ToldRodsTest() {
    }

    public static void main(String[] args) {
        promise27();
        promise28();
        promise29();
        promise30();
        promise30Edges();
        promise31();
        CHECK.end();
    }

    private static void due(String call, long got, long want) {
        CHECK.due(call, got, want);
    }

    /** Up 1: two rods of heavy 10, then one of 20; up 2: three of heavy 10, then one of 20. */
    private static UpTheFlue house() {
        UpTheFlue x = new UpTheFlue();
        x.bit(-1, 0, 10, 40);
        x.bit(0, 0, 20, 20);
        x.bit(0, 0, 30, 20);
        return x;
    }

    private static void promise27() {
        UpTheFlue x = house();
        Check.tell(x, 0, 2, 10, 10, 20, -1, -1);
        due("as it is", x.judge(0, 1), -1);
        due("otherwise up 2: rod 3", x.judge(0, 2), 3);
        Check.tell(x, 0, 0, 10, 10, 20, -1, -1);
        due("as bytes: -1 is -1", x.judge(0, 1), -1);
        Check.tell(x, 1, 1, 10, 10, 10, 20);
        due("as shorts", x.judge(1, 2), -1);
        due("up 1", x.judge(1, 1), 3);
        Check.tell(x, 1, 2, 10, 10, 20, 0);
        due("0 is not through", x.judge(1, 1), 4);
        Check.tell(x, 1, 2, 11);
        due("the first", x.judge(1, 1), 1);
        Check.tell(x, 1, 2, 10);
        due("what isn't told does not matter", x.judge(1, 1), -1);
        Check.tell(x, 1, 2);
        due("nothing told", x.judge(1, 1), -1);
        for (int s : NO_SHEET) {
            due("no sheet " + s, x.judge(s, -1), -2);
        }
        due("missing", x.judge(3, -1), -11);
        for (int f : new int[] {-1, 0, 3, Integer.MIN_VALUE, Integer.MAX_VALUE}) {
            due("no fireplace " + f, x.judge(0, f), -5);
        }
        Check.text(x, "adds 0;heavy heat + wet;burns 0;");
        x.force(1);
        Check.tell(x, 1, 2, 0, 0, 0, -1);
        due("heat and wet are 0", x.judge(1, 1), -1);
    }

    private static void promise28() {
        UpTheFlue x = house();
        Check.tell(x, 0, 2, 10, 10);
        due("both", x.whose(0), 6);
        Check.tell(x, 0, 2, 10, 10, 20);
        due("1", x.whose(0), 2);
        Check.tell(x, 0, 2, 10, 10, 10);
        due("2", x.whose(0), 4);
        Check.tell(x, 0, 2, 20);
        due("no one's; 0 is no fireplace", x.whose(0), 0);
        Check.tell(x, 0, 2);
        due("nothing told: all", x.whose(0), 6);
        due("no bits", whoseOfNone(), 0);
        UpTheFlue one = new UpTheFlue();
        one.bit(-1, 0, 10, 0);
        Check.tell(one, 3, 0, 0, -1);
        due("0 alone", one.whose(3), 1);
        for (int s : NO_SHEET) {
            due("no sheet " + s, x.whose(s), -2);
        }
        due("missing", x.whose(1), -11);
    }

    private static int whoseOfNone() {
        UpTheFlue x = new UpTheFlue();
        x.sheet(0, 2, 1);
        return x.whose(0);
    }

    private static void promise29() {
        UpTheFlue x = house();
        Check.text(x, "adds 0;heavy 10;burns 0;");
        Check.text(x, "adds 0;heavy bend * 5;burns 0;");
        Check.text(x, "adds 0;heavy 10 + wet;burns 0;");
        x.force(1);
        Check.tell(x, 0, 2, 10, 10);
        due("all four", x.laws(0, 1), 15);
        Check.tell(x, 0, 2, 10, 10, 20, -1);
        due("0 and 2", x.laws(0, 1), 5);
        Check.tell(x, 0, 2, 10, 10, 10, -1);
        due("1 and 3", x.laws(0, 1), 10);
        Check.tell(x, 0, 2, 11);
        due("none", x.laws(0, 1), 0);
        Check.tell(x, 0, 2);
        due("nothing told: all", x.laws(0, 1), 15);
        due("the law stays", x.count(4), 1);
        due("and says, where text 0 says 20", x.rod(1, 3, 1), 10);
        for (int s : NO_SHEET) {
            due("no sheet " + s, x.laws(s, -1), -2);
        }
        due("missing", x.laws(1, -1), -11);
        for (int f : new int[] {-1, 0, 3, Integer.MIN_VALUE, Integer.MAX_VALUE}) {
            due("no fireplace " + f, x.laws(0, f), -5);
        }
    }

    private static void promise30() {
        UpTheFlue x = new UpTheFlue();
        x.bit(-1, 0, 15, 0);
        x.bit(0, 0, 15, 0);
        x.bit(1, 3, 15, 4);
        x.bit(0, 0, 15, 0);
        x.lay(0, 20);
        x.lay(1, 20);
        x.lay(2, 20);
        // Each is heavy 15 as it is; were it a BLOCKED with MORE n, 15 and n, 20 at most.
        Check.tell(x, 0, 2, 15, 18, 15, -1);
        due("1 with 3", x.blocked(0, 2, 0), 13);
        due("that alone", x.blocked(0, 2, 1), 1);
        Check.tell(x, 0, 2, 15, 20);
        due("1 with 5 or more", x.blocked(0, 2, 0), 15);
        due("5 .. 9", x.blocked(0, 2, 1), 5);
        Check.tell(x, 0, 2, 16);
        due("2 with 1", x.blocked(0, 2, 0), 21);
        Check.tell(x, 0, 2, 15);
        due("from the fireplace up: 1 ahead of 0", x.blocked(0, 2, 0), 11);
        due("1 and 0 by each number", x.blocked(0, 2, 1), 18);
        Check.tell(x, 0, 2, 15, 18, 18);
        due("never two", x.blocked(0, 2, 0), -1);
        due("none", x.blocked(0, 2, 1), 0);
        Check.tell(x, 0, 2);
        due("nothing told", x.blocked(0, 2, 0), 21);
        due("27", x.blocked(0, 2, 1), 27);
        due("kind stays", x.told(2, 0), 3);
        due("more stays", x.told(2, 5), 4);
        Check.text(x, "adds 0;heavy more * 10 + wide;burns 0;");
        x.force(1);
        Check.tell(x, 0, 2, 45, 0);
        due("it says by MORE and wide", x.blocked(0, 2, 1), 0);
        Check.tell(x, 0, 2, 72, 5);
        due("with a MORE less wide than 0 is 0", x.blocked(0, 2, 1), 0);
        Check.tell(x, 0, 2, 70, 5, 5, -1);
        due("with 7", x.blocked(0, 2, 0), 27);
        Check.tell(x, 0, 2, 45, 5, 32, -1);
        due("0 with 3", x.blocked(0, 2, 0), 3);
    }

    private static void promise30Edges() {
        UpTheFlue x = house();
        x.mend(1, 2, 6);
        Check.tell(x, 0, 2, 10, 10, 20, -1);
        due("one that is so already: 0 wide all the time", x.blocked(0, 1, 1), 18);
        due("the first", x.blocked(0, 1, 0), 11);
        for (int s : NO_SHEET) {
            due("no sheet " + s, x.blocked(s, -1, 2), -2);
        }
        due("missing", x.blocked(1, -1, 2), -11);
        for (int f : new int[] {-1, 0, 3, Integer.MIN_VALUE, Integer.MAX_VALUE}) {
            due("no fireplace " + f, x.blocked(0, f, 2), -5);
        }
        for (int what : new int[] {-1, 2, Integer.MIN_VALUE, Integer.MAX_VALUE}) {
            due("what " + what, x.blocked(0, 1, what), -7);
        }
    }

    private static void promise31() {
        UpTheFlue x = house();
        due("a missing one becomes it", x.film(2, 1, 5), 5);
        due("it is of 1", x.whose(2), 2);
        due("5 numbers", x.cell(2, 5, 0), -12);
        due("the fifth is there", x.cell(2, 4, 70000), 1);
        due("they are ints: otherwise there", x.judge(2, 1), 5);
        x.cell(2, 4, 65535);
        due("not cut to shorts", x.judge(2, 1), 5);
        x.cell(2, 4, -1);
        due("as it was", x.judge(2, 1), -1);
        x.sheet(0, 0, 9);
        due("bytes become ints", x.film(0, 2, 40), 40);
        due("of one sort", x.copy(0, 0, 2, 0, 5), 5);
        due("now of 2", x.whose(2), 4);
        int[] rods = {10, 10, 10, 20, -1, -1};
        for (int i = 0; i < rods.length; i++) {
            x.cell(0, i, 99);
            due("other at rod " + (i + 1), x.judge(0, 2), i + 1);
            x.cell(0, i, rods[i]);
        }
        due("by hand", x.judge(0, 2), -1);
        due("none", x.film(0, 1, 0), 0);
        due("is not missing", x.cell(0, 0, 0), -12);
        for (int s : NO_SHEET) {
            due("no sheet " + s, x.film(s, -1, 41), -2);
        }
        for (int f : new int[] {-1, 0, 3, Integer.MIN_VALUE, Integer.MAX_VALUE}) {
            due("no fireplace " + f, x.film(1, f, 41), -5);
        }
        for (int n : new int[] {-1, 41, Integer.MIN_VALUE, Integer.MAX_VALUE}) {
            due("n " + n, x.film(1, 1, n), -7);
        }
        due("missing still", x.cell(1, 0, 0), -11);
    }
}
