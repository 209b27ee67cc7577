/** Promises 36 to 40: the host's sheets, bits by them, what lies at a place. */
public final class HostTest {
    private static final Check CHECK = new Check("HostTest");
    private static final int[] NO_SHEET = {-1, 4, Integer.MIN_VALUE, Integer.MAX_VALUE};
    private static final int LEAST = Integer.MIN_VALUE, MOST = Integer.MAX_VALUE;

    private HostTest() {
    }

    public static void main(String[] args) {
        promise36();
        promise37();
        promise37Cut();
        promise38();
        promise38Edges();
        promise39();
        promise39Edges();
        promise39Sorts();
        promise40();
        promise40Edges();
        CHECK.end();
    }

    private static void due(String call, long got, long want) {
        CHECK.due(call, got, want);
    }

    /** A house whose only rod up 0 is heavy what a number may be: it tells whether a sheet begins with it. */
    private static boolean beginsWith(UpTheFlue x, int s, int heavy) {
        x.mend(0, 0, 0);
        x.lay(0, heavy);
        return x.judge(s, 0) != 1;
    }

    private static UpTheFlue probe() {
        UpTheFlue x = new UpTheFlue();
        x.bit(-1, 0, 10, 0);
        return x;
    }

    private static void promise36() {
        UpTheFlue x = probe();
        for (int s = 0; s < 4; s++) {
            due("missing at first", x.cell(s, 0, 0), -11);
            due("becomes", x.sheet(s, s % 3, 40), 1);
            due("forty", x.cell(s, 39, 7), 1);
            due("not one more", x.cell(s, 40, 7), -12);
        }
        for (int s : NO_SHEET) {
            due("sheet " + s, x.sheet(s, 0, 1), -2);
            due("sheet " + s + " to be missing", x.sheet(s, -1, 1), -2);
        }
        for (int sort : new int[] {-2, 3, LEAST, MOST}) {
            due("sort " + sort, x.sheet(0, sort, -1), -2);
        }
        for (int sort = 0; sort < 3; sort++) {
            due("above 40", x.sheet(0, sort, 41), -2);
            due("far above", x.sheet(0, sort, MOST), -2);
            due("below 0", x.sheet(0, sort, -1), -14);
            due("far below", x.sheet(0, sort, LEAST), -14);
        }
        due("changed nothing", x.cell(0, 39, 7), 1);
        x.cell(0, 0, 5);
        CHECK.isTrue("5 stands there", beginsWith(x, 0, 5));
        due("anew", x.sheet(0, 0, 3), 1);
        CHECK.isTrue("all 0", beginsWith(x, 0, 0));
        due("as long as told", x.cell(0, 3, 0), -12);
        for (int n : new int[] {0, 41, -1, LEAST, MOST}) {
            x.sheet(0, 0, 3);
            due("missing, n " + n, x.sheet(0, -1, n), 1);
            due("is missing", x.cell(0, 0, 0), -11);
        }
        due("of none", x.sheet(0, 1, 0), 1);
        due("is there", x.cell(0, 0, 0), -12);
    }

    private static void promise37() {
        UpTheFlue x = probe();
        x.sheet(1, 2, 2);
        due("place 0", x.cell(1, 0, 55), 1);
        CHECK.isTrue("it stands there", beginsWith(x, 1, 55));
        due("place 1", x.cell(1, 1, -1), 1);
        due("as told: 55, through", x.judge(1, 0), -1);
        for (int i : new int[] {-1, 2, 40, LEAST, MOST}) {
            due("place " + i, x.cell(1, i, 1), -12);
        }
        for (int s : NO_SHEET) {
            due("sheet " + s, x.cell(s, -1, 1), -2);
        }
        due("missing", x.cell(0, -1, 1), -11);
        due("nothing changed", x.judge(1, 0), -1);
    }

    private static void promise37Cut() {
        int[][] bytes = {{256 + 9, 9}, {-256 + 9, 9}, {1 << 30 | 99, 99}, {65536 + 256 + 1, 1}};
        for (int[] each : bytes) {
            UpTheFlue x = probe();
            x.sheet(0, 0, 1);
            x.cell(0, 0, each[0]);
            CHECK.isTrue("a byte of " + each[0], beginsWith(x, 0, each[1]));
            x.sheet(0, 2, 1);
            x.cell(0, 0, each[0]);
            CHECK.isTrue("not of ints " + each[0], !beginsWith(x, 0, each[1]));
        }
        UpTheFlue x = probe();
        x.sheet(0, 1, 1);
        x.cell(0, 0, 65536 + 9);
        CHECK.isTrue("a short", beginsWith(x, 0, 9));
        x.cell(0, 0, 256 + 9);
        CHECK.isTrue("of a short 16 bits stay", !beginsWith(x, 0, 9));
        for (int sort = 0; sort < 3; sort++) {
            x.sheet(0, sort, 2);
            x.lay(0, 0);
            x.cell(0, 1, sort == 0 ? 255 : sort == 1 ? 65535 : -1);
            due("-1 of its lowest bits, sort " + sort, x.judge(0, 0), -1);
            x.cell(0, 1, sort == 2 ? 255 : 127);
            due("else it is not, sort " + sort, x.judge(0, 0), 2);
        }
    }

    private static void promise38() {
        UpTheFlue x = probe();
        x.sheet(0, 2, 4);
        x.sheet(1, 2, 3);
        for (int i = 0; i < 4; i++) {
            x.cell(0, i, 10 + i);
        }
        due("two to another", x.copy(0, 2, 1, 0, 2), 2);
        CHECK.isTrue("12 first", beginsWith(x, 1, 12));
        due("13 next: to the first place", x.copy(1, 1, 1, 0, 1), 1);
        CHECK.isTrue("13", beginsWith(x, 1, 13));
        due("the third is 0", x.copy(1, 2, 1, 0, 1), 1);
        CHECK.isTrue("0", beginsWith(x, 1, 0));
        // Over itself, up and down: as they were.
        due("up", x.copy(0, 0, 0, 1, 3), 3);
        int[] up = {10, 10, 11, 12};
        for (int i = 0; i < 4; i++) {
            x.copy(0, i, 1, 0, 1);
            CHECK.isTrue("up, place " + i, beginsWith(x, 1, up[i]));
        }
        due("down", x.copy(0, 1, 0, 0, 3), 3);
        int[] down = {10, 11, 12, 12};
        for (int i = 0; i < 4; i++) {
            x.copy(0, i, 1, 0, 1);
            CHECK.isTrue("down, place " + i, beginsWith(x, 1, down[i]));
        }
        due("whole", x.copy(0, 0, 0, 0, 4), 4);
        due("none", x.copy(0, 0, 1, 0, 0), 0);
        due("none at the end", x.copy(0, 4, 1, 3, 0), 0);
    }

    private static void promise38Edges() {
        UpTheFlue x = probe();
        x.sheet(0, 2, 4);
        x.sheet(1, 2, 3);
        x.sheet(2, 1, 4);
        for (int s : NO_SHEET) {
            due("sheet " + s, x.copy(s, -1, 3, -1, -1), -2);
            due("other " + s, x.copy(3, -1, s, -1, -1), -2);
        }
        due("missing", x.copy(3, -1, 2, -1, -1), -11);
        due("other missing", x.copy(0, -1, 3, -1, -1), -11);
        due("unlike", x.copy(0, -1, 2, -1, -1), -13);
        due("unlike, none", x.copy(2, 0, 0, 0, 0), -13);
        due("n below 0", x.copy(0, 0, 1, 0, -1), -12);
        due("n far below 0", x.copy(0, 4, 1, 3, LEAST), -12);
        due("i below 0", x.copy(0, -1, 1, 0, 1), -12);
        due("j below 0", x.copy(0, 0, 1, -1, 1), -12);
        due("i and n past the end", x.copy(0, 2, 1, 0, 3), -12);
        due("j and n past the end", x.copy(0, 0, 1, 1, 3), -12);
        due("i past the end, none", x.copy(0, 5, 1, 0, 0), -12);
        due("j past the end, none", x.copy(0, 0, 1, 4, 0), -12);
        due("far i", x.copy(0, MOST, 1, 0, 1), -12);
        due("far j", x.copy(0, 0, 1, MOST, 1), -12);
        due("far n", x.copy(0, 1, 1, 1, MOST), -12);
        due("far all", x.copy(0, MOST, 0, MOST, MOST), -12);
        due("far below all", x.copy(0, LEAST, 0, LEAST, LEAST), -12);
    }

    private static void promise39() {
        UpTheFlue x = new UpTheFlue();
        Check.tell(x, 0, 2, 99, -1, 3, 25, 17, 0, 6, 25, 17, 0, 5, 69, 49, 2, 0, 11, 0, 1, 0, 34, 2);
        due("three of five came", x.bitsBy(0, 2, 1, 5), 3);
        due("bits", x.count(0), 3);
        int[][] told = {{3, -1, 2, 5, 1, 7}, {5, 0, 6, 9, 4, 9}, {0, 1, 3, 4, 0, 2}};
        for (int b = 0; b < 3; b++) {
            for (int what = 0; what < 6; what++) {
                due("told " + b + " " + what, x.told(b, what), told[b][what]);
            }
        }
        due("none of them", x.bitsBy(0, 2, 1, 0), 0);
        due("from another place on", x.bitsBy(0, 2, 9, 1), 1);
        due("it is above by number", x.told(3, 1), 0);
        x = new UpTheFlue();
        Check.tell(x, 0, 2, -1, 0, 11, 0, -1, 0, 11, 0, -1, 0, 11, 0, -1, 0, 11, 0, -1, 0, 11, 0,
            -1, 0, 11, 0, -1, 0, 11, 0, -1, 0, 11, 0, -1, 0, 11, 0, -1, 0, 11, 0);
        due("seven", x.bitsBy(0, 2, 12, 7), 7);
        due("three more, then it is full", x.bitsBy(0, 2, 0, 10), 3);
        due("ten", x.count(0), 10);
        due("none more", x.bitsBy(0, 2, 0, 10), 0);
    }

    private static void promise39Edges() {
        UpTheFlue x = new UpTheFlue();
        Check.tell(x, 0, 2, -1, 0, 11, 0, 0, 0, 22, 0, 0);
        due("what stood ahead came", x.bitsBy(0, 2, 0, 3), -12);
        due("two", x.count(0), 2);
        due("the last of four outside", x.bitsBy(0, 2, 6, 1), -12);
        due("of it nothing came", x.count(0), 2);
        for (int at : new int[] {-1, 9, 40, LEAST, MOST}) {
            due("place " + at, x.bitsBy(0, 2, at, 1), -12);
            due("place " + at + " for none", x.bitsBy(0, 2, at, 0), 0);
        }
        for (int s : NO_SHEET) {
            due("sheet " + s, x.bitsBy(s, 2, 0, 1), -2);
        }
        for (int sort : new int[] {-1, 3, LEAST, MOST}) {
            due("sort " + sort, x.bitsBy(1, sort, -1, 1), -2);
        }
        for (int n : new int[] {-1, 11, LEAST, MOST}) {
            due("n " + n, x.bitsBy(1, 2, -1, n), -2);
        }
        due("missing", x.bitsBy(1, 0, -1, 1), -11);
        due("of another sort", x.bitsBy(0, 1, -1, 1), -13);
        due("of another sort, none", x.bitsBy(0, 0, 0, 0), -13);
        due("two still", x.count(0), 2);
    }

    private static void promise39Sorts() {
        for (int sort = 0; sort < 3; sort++) {
            UpTheFlue x = new UpTheFlue();
            Check.tell(x, 3, sort, sort == 0 ? 255 : sort == 1 ? 65535 : -1, 4, 69, 49, 0, 2, sort == 0 ? 256 + 10 : 10, 0);
            due("sort " + sort, x.bitsBy(3, sort, 0, 2), 2);
            due("-1 as bytes and shorts have it", x.told(0, 1), -1);
            due("the second", x.told(1, 2), 1);
        }
        UpTheFlue x = new UpTheFlue();
        Check.tell(x, 3, 2, 255, 4, 69, 49);
        due("255 is none above", x.bitsBy(3, 2, 0, 1), 0);
    }

    private static void promise40() {
        int[][] are = {{0}, {0, 1}, {0, 2}, {0, 1, 3}, {0, 2, 4}, {0, 5}};
        UpTheFlue x = new UpTheFlue();
        for (int b = 0; b < 6; b++) {
            x.bit(-1, b, 11, 1);
        }
        for (int b = 0; b < 6; b++) {
            for (int kind = 0; kind <= 6; kind++) {
                boolean is = false;
                for (int each : are[b]) {
                    is |= each == kind;
                }
                due("kind " + b + " for " + kind, x.taken(b, kind), is ? b : -13);
            }
        }
        due("no soot", x.taken(12, 6), -11);
        due("no soot, for a BIT", x.taken(12, 0), -11);
        x.lay(2, 1);
        due("soot", x.taken(12, 6), 1);
        x.lay(2, 99);
        due("much", x.taken(12, 6), 99);
        for (int kind = 0; kind < 6; kind++) {
            due("soot is no BIT " + kind, x.taken(12, kind), -13);
        }
        due("soot changes nothing", x.told(2, 6), 99);
        x.lay(0, 3);
        due("soot of 0", x.taken(10, 6), 3);
        due("that is no BIT", x.taken(10, 0), -13);
        x.mend(2, 3, 1);
        due("TARRED by then", x.taken(2, 1), 2);
        due("no BLOCKED by then", x.taken(2, 2), -13);
    }

    private static void promise40Edges() {
        UpTheFlue x = new UpTheFlue();
        for (int i = 0; i < 20; i++) {
            due("nothing at " + i, x.taken(i, i % 7), -11);
        }
        x.bit(-1, 0, 11, 0);
        for (int kind : new int[] {-1, 7, LEAST, MOST}) {
            due("kind " + kind, x.taken(20, kind), -2);
        }
        for (int i : new int[] {-1, 20, LEAST, MOST}) {
            due("place " + i, x.taken(i, 0), -12);
        }
        due("next to it", x.taken(1, 0), -11);
        for (int b = 1; b < 10; b++) {
            x.bit(-1, 0, 11, 0);
        }
        due("the last bit", x.taken(9, 0), 9);
        x.lay(9, 7);
        due("the last soot", x.taken(19, 6), 7);
    }
}
