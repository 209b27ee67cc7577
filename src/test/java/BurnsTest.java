/** Promises 22 to 26: how likely nothing burns, how many fires till it would, how often to sweep, the round, the ball. */
public final class BurnsTest {
    private static final Check CHECK = new Check("BurnsTest");
    private static final int[] NO_NUMBER = {-1, 100, Integer.MIN_VALUE, Integer.MAX_VALUE};

    private BurnsTest() {
    }

    public static void main(String[] args) {
        promise22();
        promise23();
        promise24();
        promise24Edges();
        promise25();
        promise25First();
        promise25Edges();
        promise26();
        promise26Edges();
        CHECK.end();
    }

    private static void due(String call, long got, long want) {
        CHECK.due(call, got, want);
    }

    private static void promise22() {
        UpTheFlue x = Check.under("adds 10;heavy 0;burns soot + heat + wet * 10;");
        x.bit(-1, 0, 19, 0);
        x.bit(0, 1, 19, 3);
        // Behind the first fire 0 has 10, 1 has 13; behind the second 20, 26.
        due("none", x.fine(1, 0, 0), 1000000000L);
        due("one: .87 * .9", x.fine(1, 1, 0), 783000000L);
        due("two: .87 * .9 * .74 * .8", x.fine(1, 2, 0), 463536000L);
        due("heat 1, wet 2: .66 * .69", x.fine(1, 1, 12), 455400000L);
        due("it is sure by ten fires", x.fine(1, 10, 0), 0);
        due("soot is as it was", x.told(0, 6) + x.told(1, 6), 0);
        x.lay(0, 5);
        x.lay(1, 7);
        due("on what lies there: .8 * .85", x.fine(1, 1, 0), 680000000L);
        due("it lies there still", x.told(0, 6), 5);
        due("there, too", x.told(1, 6), 7);
        // Cut each time: 1000000000, 910000000, 828100000, 753571000, 685749610, 624032145 (.1 cut).
        x = Check.under("adds 0;heavy 0;burns 9;");
        x.bit(-1, 0, 19, 0);
        due("cut", x.fine(0, 5, 0), 624032145L);
        due("cut once more: 567869251.95", x.fine(0, 6, 0), 567869251L);
        due("then: 516761018.41", x.fine(0, 7, 0), 516761018L);
        for (int many : new int[] {-1, 41, Integer.MIN_VALUE, Integer.MAX_VALUE}) {
            due("many " + many, x.fine(0, many, 0), UpTheFlue.NO);
        }
        for (int heatWet : NO_NUMBER) {
            due("heatWet " + heatWet, x.fine(0, 1, heatWet), UpTheFlue.NO);
        }
        x.bit(0, 0, 19, 0);
        for (int f : new int[] {-1, 0, 2, Integer.MIN_VALUE, Integer.MAX_VALUE}) {
            due("no fireplace " + f, x.fine(f, 1, 0), UpTheFlue.NO);
        }
        x = Check.under("adds 9;heavy 0;burns 0;");
        x.bit(-1, 0, 19, 0);
        due("nothing burns", x.fine(0, 40, 99), 1000000000L);
    }

    private static void promise23() {
        UpTheFlue x = Check.under("adds 10;heavy 0;burns soot;");
        x.bit(-1, 0, 19, 0);
        // 900000000, 720000000, 504000000, 302400000, 151200000.
        due("below all", x.when(0, 0, 0), 1);
        due("not below .9 by 1", x.when(0, 0, 10), 2);
        due("below .91 by 1", x.when(0, 0, 9), 1);
        due("not below .72 by 2", x.when(0, 0, 28), 3);
        due("below .73", x.when(0, 0, 27), 2);
        due("below .5", x.when(0, 0, 50), 4);
        due("below .01", x.when(0, 0, 99), 8);
        due("soot is as it was", x.told(0, 6), 0);
        x.lay(0, 51);
        due("on what lies there: .39", x.when(0, 99, 60), 1);
        due("it lies there still", x.told(0, 6), 51);
        for (int bad : NO_NUMBER) {
            due("heatWet " + bad, x.when(0, bad, 0), -7);
            due("hundredth " + bad, x.when(0, 0, bad), -7);
        }
        for (int f : new int[] {-1, 1, Integer.MIN_VALUE, Integer.MAX_VALUE}) {
            due("no fireplace " + f, x.when(f, -1, -1), -5);
        }
        x.bit(0, 0, 19, 0);
        due("no fireplace 0", x.when(0, 0, 0), -5);
        x = Check.under("adds 1;heavy 0;burns not soot < 40;");
        x.bit(-1, 0, 19, 0);
        due("by the last fire of 40", x.when(0, 0, 0), 40);
        due("1 of a hundred is not below .99", x.when(0, 0, 1), -1);
        x.lay(0, 1);
        due("by 40 twice", x.when(0, 0, 1), 40);
        x = Check.under("adds 1;heavy 0;burns heat - 5 + wet - 5;");
        x.bit(-1, 0, 19, 0);
        due("never", x.when(0, 55, 0), -1);
        due("at once", x.when(0, 65, 0), 1);
    }

    private static void promise24() {
        UpTheFlue x = Check.under("adds 2 + heat + wet;heavy soot;burns 0;");
        x.bit(-1, 0, 19, 0);
        x.bit(0, 1, 19, 1);
        // Each fire lays 2 in 0, 3 in 1: swept clean behind n fires, 3n is the most.
        due("line 9", x.often(1, 0, 99, 9), 3);
        due("line 11", x.often(1, 0, 99, 11), 3);
        due("line 12", x.often(1, 0, 99, 12), 4);
        due("line 3", x.often(1, 0, 99, 3), 1);
        due("line 2", x.often(1, 0, 99, 2), -1);
        due("line 72", x.often(1, 0, 99, 72), 24);
        due("line 71", x.often(1, 0, 99, 71), 23);
        due("line 99", x.often(1, 0, 99, 99), 24);
        due("heat and wet: 4, 5 a fire", x.often(1, 11, 99, 24), 4);
        due("heat alone: 3, 4 a fire", x.often(1, 10, 99, 24), 6);
        due("too heavy from 9 on", x.often(1, 0, 8, 70), 2);
        due("soot is as it was", x.told(0, 6) + x.told(1, 6), 0);
        x.lay(1, 30);
        due("what lies there is swept first", x.often(1, 0, 99, 33), 1);
        due("no line that it is above", x.often(1, 0, 99, 32), -1);
        due("it lies there still", x.told(1, 6), 30);
        due("heat 9, wet 9: 50, 20 and so on", x.often(1, 99, 99, 51), 1);
        due("heat 9, wet 9, line 50", x.often(1, 99, 99, 50), -1);
    }

    private static void promise24Edges() {
        UpTheFlue x = Check.under("adds 3;heavy 0;burns 0;");
        x.bit(-1, 0, 19, 0);
        x.bit(-1, 0, 19, 0);
        x.lay(1, 99);
        due("another flue does not matter", x.often(0, 0, 0, 3), 1);
        due("line 0 is one", x.often(0, 0, 0, 0), -1);
        x.mend(0, 3, 0);
        // TARRED: 3, swept 1, 4, swept 2, 5, swept 2, 5 and so on.
        due("half is left", x.often(0, 0, 0, 5), 1);
        due("not below 5", x.often(0, 0, 0, 4), -1);
        x.mend(0, 4, 0);
        due("LOST: all is left, 3 * 24", x.often(0, 0, 0, 72), 24);
        due("LOST: not below 72", x.often(0, 0, 0, 71), -1);
        for (int bad : NO_NUMBER) {
            due("heatWet " + bad, x.often(0, bad, 0, 0), -7);
            due("force " + bad, x.often(0, 0, bad, 0), -7);
            due("line " + bad, x.often(0, 0, 0, bad), -7);
        }
        for (int f : new int[] {-1, 2, Integer.MIN_VALUE, Integer.MAX_VALUE}) {
            due("no fireplace " + f, x.often(f, -1, -1, -1), -5);
        }
        x.bit(0, 0, 19, 0);
        due("no fireplace 0", x.often(0, 0, 0, 0), -5);
        x = Check.under("adds 0;heavy 0;burns 0;");
        x.bit(-1, 0, 19, 0);
        due("no soot is not above 0", x.often(0, 0, 0, 0), 24);
    }

    private static void promise25() {
        UpTheFlue x = Check.under("adds 5;heavy 0;burns 0;");
        x.bit(-1, 0, 19, 0);
        x.bit(-1, 0, 19, 0);
        x.bit(-1, 1, 19, 5);
        // A week lays 5, 5, 10: 2 swept first leaves 10, 10; swept last it has 30.
        due("2 has at most 10, then 0 and 1 wait", x.round(0, 0, 1), 20);
        due("order 0 2 1: 2 has 20 ahead of being swept", x.round(0, 0, 0), 21);
        due("soot is as it was", x.told(2, 6), 0);
        x.lay(1, 40);
        // 1 must come first: 45 in the first week; then 2 (20), then 0.
        due("the most is 45 by 1 first", x.round(0, 0, 1), 45);
        due("so 1 0 2", x.round(0, 0, 0), 102);
        x.lay(2, 34);
        // Week 1: 45 and 44. 1 first: 2 has 54; 2 first: 1 has 50, 2 10; then 1, and 0.
        due("2 first", x.round(0, 0, 1), 50);
        due("so 2 1 0", x.round(0, 0, 0), 210);
    }

    /** What is like: the first order by fireplaces; they are numbers of bits. */
    private static void promise25First() {
        UpTheFlue x = Check.under("adds heat;heavy wet;burns 0;");
        x.bit(-1, 0, 19, 0);
        x.bit(0, 0, 19, 0);
        x.bit(0, 0, 19, 0);
        x.bit(-1, 0, 19, 0);
        due("nothing grows", x.round(0, 0, 0), 123);
        due("none at all", x.round(0, 0, 1), 0);
        // 0 gets two a week: 8; 3, 1, 2 get 4. 1 or 2 sweeps 0, too.
        due("3 last", x.round(40, 0, 0), 123);
        due("it has 12 then", x.round(40, 0, 1), 12);
        x.mend(3, 1, 9);
        // 3 gets 13: swept last it has 39, else 26 at some time.
        due("3 between, ahead of 3 first", x.round(40, 0, 0), 132);
        due("it has 26 then", x.round(40, 0, 1), 26);
        x.mend(3, 0, 9);
        x.lay(3, 90);
        due("3 first", x.round(40, 0, 0), 312);
        due("94", x.round(40, 0, 1), 94);
    }

    private static void promise25Edges() {
        UpTheFlue none = new UpTheFlue();
        due("no bits, order", none.round(99, 99, 0), 0);
        due("no bits, soot", none.round(99, 99, 1), 0);
        UpTheFlue x = Check.under("adds 1;heavy 50;burns 0;");
        x.bit(-1, 0, 19, 0);
        due("one alone: 0", x.round(0, 50, 0), 0);
        due("one alone", x.round(0, 50, 1), 1);
        x.bit(-1, 0, 19, 0);
        due("0 as the highest digit", x.round(0, 50, 0), 1);
        due("two weeks, one unswept", x.round(0, 50, 1), 2);
        for (int i = 0; i < 4; i++) {
            x.bit(-1, 0, 19, 0);
        }
        due("the first four", x.round(0, 50, 0), 123);
        due("four weeks", x.round(0, 50, 1), 4);
        due("too heavy", x.round(0, 49, 1), 4);
        x.lay(3, 10);
        due("3 first", x.round(0, 50, 0), 3012);
        due("too heavy: all are like", x.round(0, 49, 0), 123);
        due("too heavy: 14", x.round(0, 49, 1), 14);
        x.lay(5, 60);
        due("any bit, of no fire too", x.round(0, 50, 1), 60);
        due("by which all are like", x.round(0, 50, 0), 123);
        x.mend(2, 4, 0);
        x.lay(2, 99);
        due("nothing less than 99", x.round(0, 50, 1), 99);
        due("then all are like", x.round(0, 50, 0), 123);
        x.lay(2, 94);
        due("98", x.round(0, 50, 1), 98);
        due("by the first, too", x.round(0, 50, 0), 123);
        due("it lies there still", x.told(2, 6) + x.told(3, 6) + x.told(5, 6), 94 + 10 + 60);
        for (int bad : NO_NUMBER) {
            due("heatWet " + bad, x.round(bad, 0, 0), -2);
            due("force " + bad, x.round(0, bad, 0), -2);
            due("BAD without bits, too", none.round(bad, 0, 0), -2);
        }
        for (int what : new int[] {-1, 2, Integer.MIN_VALUE, Integer.MAX_VALUE}) {
            due("what " + what, x.round(0, 0, what), -2);
        }
    }

    private static void ballDue(UpTheFlue x, int p, int size, int bit, int fireplace, int rods) {
        due("ball " + p + " " + size + " stays", x.ball(p, size, 0), bit);
        due("ball " + p + " " + size + " falls out", x.ball(p, size, 1), fireplace);
        due("ball " + p + " " + size + " rods", x.ball(p, size, 2), rods);
    }

    private static void promise26() {
        UpTheFlue x = new UpTheFlue();
        x.bit(-1, 0, 28, 0);
        x.bit(-1, 0, 69, 0);
        x.bit(0, 0, 39, 0);
        x.bit(0, 0, 11, 0);
        x.bit(2, 2, 46, 2);
        x.bit(2, 0, 50, 0);
        // Down 0: 0 (8 wide, 2 rods), 2 (9, 3), 4 (6 less 2, 4).
        ballDue(x, 0, 9, 0, -1, 0);
        ballDue(x, 0, 8, 4, -1, 5);
        ballDue(x, 0, 5, 4, -1, 5);
        ballDue(x, 0, 4, -1, 4, 9);
        ballDue(x, 0, 0, -1, 4, 9);
        ballDue(x, 1, 9, -1, 1, 6);
        x.mend(2, 4, 5);
        x.lay(2, 15);
        // 2 is 9 - 5 - 1 = 3 wide.
        ballDue(x, 0, 4, 2, -1, 2);
        ballDue(x, 0, 3, -1, 4, 9);
    }

    private static void promise26Edges() {
        UpTheFlue x = BitsTest.house();
        for (int p : new int[] {-1, 1, 2, 3, 6, 7, 10, Integer.MIN_VALUE, Integer.MAX_VALUE}) {
            due("no pot " + p, x.ball(p, -1, 3), -5);
        }
        for (int size : new int[] {-1, 10, Integer.MIN_VALUE, Integer.MAX_VALUE}) {
            due("size " + size, x.ball(0, size, 0), -7);
        }
        for (int what : new int[] {-1, 3, Integer.MIN_VALUE, Integer.MAX_VALUE}) {
            due("what " + what, x.ball(0, 0, what), -7);
        }
        UpTheFlue ten = new UpTheFlue();
        for (int b = 0; b < 10; b++) {
            ten.bit(b - 1, 0, 69, 0);
        }
        ballDue(ten, 0, 9, -1, 9, 60);
        ten.mend(9, 2, 1);
        ballDue(ten, 0, 9, 9, -1, 54);
    }
}
