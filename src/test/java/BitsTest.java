/** Promises 7 to 13: bits and their kinds, flues, where they run together. */
public final class BitsTest {
    private static final Check CHECK = new Check("BitsTest");
    private static final int[] FAR = {-1, 10, Integer.MIN_VALUE, Integer.MAX_VALUE};

    private BitsTest() {
    }

    public static void main(String[] args) {
        promise7();
        promise7Full();
        promise8();
        promise9();
        promise10();
        promise10Wide();
        promise11();
        promise12();
        promise13();
        CHECK.end();
    }

    private static void due(String call, long got, long want) {
        CHECK.due(call, got, want);
    }

    /** 0 ends in a pot, 1 and 2 are below 0, 3 and 4 below 2, 5 ends in a pot, 6 is below 5. */
    static UpTheFlue house() {
        UpTheFlue x = new UpTheFlue();
        x.bit(-1, 0, 19, 0);
        x.bit(0, 0, 28, 10);
        x.bit(0, 0, 37, 20);
        x.bit(2, 0, 46, 30);
        x.bit(2, 0, 55, 40);
        x.bit(-1, 0, 64, 0);
        x.bit(5, 0, 13, 0);
        return x;
    }

    private static void promise7() {
        UpTheFlue x = new UpTheFlue();
        due("above one to come", x.bit(0, 0, 11, 0), -2);
        due("least", x.bit(-1, 0, 10, 0), 0);
        due("most", x.bit(0, 5, 69, 49), 1);
        due("above itself", x.bit(2, 0, 11, 0), -2);
        due("above -2", x.bit(-2, 0, 11, 0), -2);
        due("above far", x.bit(Integer.MAX_VALUE, 0, 11, 0), -2);
        due("above far below", x.bit(Integer.MIN_VALUE, 0, 11, 0), -2);
        for (int kind : new int[] {-1, 6, Integer.MIN_VALUE, Integer.MAX_VALUE}) {
            due("kind " + kind, x.bit(-1, kind, 11, 0), -2);
        }
        for (int longWide : new int[] {-1, 0, 9, 70, -11, Integer.MIN_VALUE, Integer.MAX_VALUE}) {
            due("longWide " + longWide, x.bit(-1, 0, longWide, 0), -2);
        }
        for (int bendMore : new int[] {-1, -10, 50, 99, Integer.MIN_VALUE, Integer.MAX_VALUE}) {
            due("bendMore " + bendMore, x.bit(-1, 0, 11, bendMore), -2);
        }
        due("none came", x.count(0), 2);
        due("each kind", x.bit(1, 3, 42, 17), 2);
        int[] told = {3, 1, 4, 2, 1, 7, 0, 2, 0};
        for (int what = 0; what < told.length; what++) {
            due("told 2 " + what, x.told(2, what), told[what]);
        }
    }

    private static void promise7Full() {
        UpTheFlue x = new UpTheFlue();
        for (int b = 0; b < 10; b++) {
            due("bit " + b, x.bit(b - 1, b % 6, 19, 0), b);
        }
        due("full", x.bit(-1, 0, 19, 0), -4);
        due("BAD ahead of FULL", x.bit(-1, 6, 19, 0), -2);
        due("BAD ahead of FULL: above", x.bit(10, 0, 19, 0), -2);
        due("bits", x.count(0), 10);
        due("a flue of ten", x.flue(9, 1), 1023);
    }

    private static void promise8() {
        UpTheFlue x = house();
        due("was a BIT", x.mend(2, 4, 9), 0);
        due("was LOST", x.mend(2, 1, 3), 4);
        due("kind", x.told(2, 0), 1);
        due("more", x.told(2, 5), 3);
        due("wide stays", x.told(2, 3), 7);
        due("bent stays", x.told(2, 4), 2);
        x.lay(2, 50);
        x.mend(2, 3, 0);
        due("soot stays", x.told(2, 6), 50);
        for (int b : new int[] {-1, 7, Integer.MIN_VALUE, Integer.MAX_VALUE}) {
            due("no bit", x.mend(b, 9, 10), -5);
        }
        due("kind -1", x.mend(0, -1, 0), -7);
        due("kind 6", x.mend(0, 6, 0), -7);
        due("more -1", x.mend(0, 0, -1), -7);
        due("more 10", x.mend(0, 0, 10), -7);
        due("nothing changed", x.told(0, 0), 0);
    }

    private static void promise9() {
        UpTheFlue x = house();
        due("was 0", x.lay(3, 99), 0);
        due("was 99", x.lay(3, 0), 99);
        due("was 0 again", x.lay(3, 1), 0);
        due("now 1", x.told(3, 6), 1);
        due("another has none", x.told(2, 6), 0);
        due("-1", x.lay(3, -1), -7);
        due("100", x.lay(3, 100), -7);
        due("still 1", x.told(3, 6), 1);
        for (int b : new int[] {-1, 7, Integer.MIN_VALUE, Integer.MAX_VALUE}) {
            due("no bit", x.lay(b, 100), -5);
        }
    }

    private static void promise10() {
        UpTheFlue x = house();
        x.mend(3, 5, 4);
        x.lay(3, 12);
        int[] told = {5, 2, 4, 6, 3, 4, 12, 6, 40};
        for (int what = 0; what < told.length; what++) {
            due("told 3 " + what, x.told(3, what), told[what]);
        }
        due("above none", x.told(5, 1), -1);
        due("what 9", x.told(3, 9), -7);
        due("what -1", x.told(3, -1), -7);
        due("no bit", x.told(7, 9), -5);
        due("no bit -1", x.told(-1, 0), -5);
        for (int kind = 0; kind < 5; kind++) {
            x.mend(3, kind, 4);
            due("only a CRACKED leaks", x.told(3, 8), 0);
        }
    }

    private static void promise10Wide() {
        UpTheFlue x = new UpTheFlue();
        x.bit(-1, 0, 16, 4);
        x.lay(0, 39);
        int[] is = {6, 6, 2, 6, 0, 6};
        for (int kind = 0; kind < 6; kind++) {
            x.mend(0, kind, 4);
            due("it is wide, kind " + kind, x.told(0, 7), is[kind]);
        }
        x.mend(0, 2, 6);
        due("blocked wholly", x.told(0, 7), 0);
        x.mend(0, 2, 9);
        due("not below 0", x.told(0, 7), 0);
        x.mend(0, 4, 1);
        due("LOST: 6 - 1 - 3", x.told(0, 7), 2);
        x.lay(0, 40);
        due("LOST: 6 - 1 - 4", x.told(0, 7), 1);
        x.lay(0, 9);
        due("LOST: 6 - 1 - 0", x.told(0, 7), 5);
        x.lay(0, 99);
        due("LOST: not below 0", x.told(0, 7), 0);
        due("WIDE", x.told(0, 3), 6);
    }

    private static void promise11() {
        UpTheFlue x = house();
        due("fireplaces", x.all(0), 2 + 8 + 16 + 64);
        due("pots", x.all(1), 1 + 32);
        for (int what : new int[] {-1, 2, Integer.MIN_VALUE, Integer.MAX_VALUE}) {
            due("all " + what, x.all(what), -2);
        }
        x.bit(6, 0, 11, 0);
        due("a fireplace no more", x.all(0), 2 + 8 + 16 + 128);
        x.bit(-1, 0, 11, 0);
        due("both", x.all(0) & x.all(1), 256);
    }

    private static void promise12() {
        UpTheFlue x = house();
        int[][] due = {{0, 1, 2 + 8 + 16, 1}, {0, 3, 2, 3}, {0, 5, 8 + 16, 4}, {0, 13, 8, 8}, {0, 21, 16, 9}, {5, 32, 64, 6}, {5, 96, 64, 7}};
        for (int b = 0; b < due.length; b++) {
            for (int what = 0; what < 4; what++) {
                due("flue " + b + " " + what, x.flue(b, what), due[b][what]);
            }
        }
        UpTheFlue one = new UpTheFlue();
        one.bit(-1, 0, 11, 0);
        due("0 alone", one.flue(0, 2), 1);
        due("what 4", x.flue(0, 4), -7);
        due("what -1", x.flue(0, -1), -7);
        for (int b : FAR) {
            due("no bit", x.flue(b, 4), -5);
        }
        due("no bit 7", x.flue(7, 0), -5);
    }

    private static void promise13() {
        UpTheFlue x = house();
        int[][] due = {{3, 4, 2}, {4, 3, 2}, {3, 1, 0}, {1, 4, 0}, {3, 3, 3}, {3, 2, 2}, {2, 3, 2}, {0, 4, 0}, {3, 6, -1}, {6, 5, 5}, {5, 0, -1}};
        for (int[] each : due) {
            due("join " + each[0] + " " + each[1], x.join(each[0], each[1]), each[2]);
        }
        for (int b : FAR) {
            due("no bit f", x.join(b, 0), -5);
            due("no bit g", x.join(0, b), -5);
        }
        due("no bit 7", x.join(7, 7), -5);
    }
}
