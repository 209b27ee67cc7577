/** Promises 32 to 35: years by lot, images. */
public final class LotsTest {
    private static final Check CHECK = new Check("LotsTest");

    private LotsTest() {
    }

    public static void main(String[] args) {
        promise32();
        promise32Flue();
        promise32Long();
        promise32Edges();
        promise33();
        promise33Edges();
        promise34();
        promise35();
        promise35Bits();
        CHECK.end();
    }

    private static void due(String call, long got, long want) {
        CHECK.due(call, got, want);
    }

    private static void promise32() {
        // Of seed 0: 48271, 182605794, 1291394886: modulo 100 71, 94, 86; of seed 1: 96542, 365211588: 42, 88.
        UpTheFlue x = Check.under("adds 0;heavy 0;burns 71;");
        x.bit(-1, 0, 19, 0);
        Check.text(x, "adds 0;heavy 0;burns 72;");
        Check.text(x, "adds 0;heavy 0;burns 42;");
        Check.text(x, "adds 0;heavy 0;burns 43;");
        Check.text(x, "adds 0;heavy 0;burns 86 + heat + wet * 10;");
        due("71 is not below 71", x.drawn(0, 0, 1, 0), -1);
        x.force(2);
        due("71 is below 72", x.drawn(0, 0, 1, 0), 1);
        x.force(3);
        due("42 is not below 42", x.drawn(1, 0, 1, 0), -1);
        x.force(4);
        due("42 is below 43", x.drawn(1, 0, 1, 0), 1);
        due("88 comes second", x.drawn(1, 0, 40, 0), 1);
        // Of seed 99999: 4827100000 less 2 * 2147483647 is 532132706: 6.
        x.force(0);
        x.mend(0, 1, 9);
        x.lay(0, 46);
        due("a seed that wraps: 6 is below 56 - 50 + 1", x.drawn(99999, 0, 1, 1), 1);
        due("6 is not below 56 - 50", x.drawn(99999, 0, 1, 0), -1);
        due("soot is as it was", x.told(0, 6), 46);
    }

    /** Each bit of the flue has a lot, from the fireplace up, behind soot has grown. */
    private static void promise32Flue() {
        UpTheFlue x = Check.under("adds 10;heavy 0;burns soot;");
        x.bit(-1, 0, 19, 0);
        x.bit(0, 0, 19, 0);
        int[] lots = lots(0, 80);
        due("the first lot", lots[0], 71);
        due("the second", lots[1], 94);
        due("the third", lots[2], 86);
        for (int seed : new int[] {0, 1, 7, 500, 99999}) {
            int[] of = lots(seed, 80);
            int want = -1;
            for (int n = 40; n >= 1; n--) {
                int soot = Math.min(99, 10 * n);
                want = of[2 * n - 2] < soot || of[2 * n - 1] < soot ? n : want;
            }
            due("seed " + seed, x.drawn(seed, 1, 40, 0), want);
            due("one fire less", x.drawn(seed, 1, want - 1, 0), -1);
        }
        x.mend(1, 5, 0);
        x.lay(0, 84);
        // First fire: 1 has 5, 0 has 94: 94 is not below it; second: 10, 99: 86, then the fourth.
        due("the pot's lot is the second", x.drawn(0, 1, 1, 0), -1);
        x.lay(0, 85);
        due("94 is below 95", x.drawn(0, 1, 1, 0), 1);
        x.lay(0, 0);
        x.lay(1, 66);
        due("71 is not below 71", x.drawn(0, 1, 1, 0), -1);
        x.lay(1, 67);
        due("71 is below 72", x.drawn(0, 1, 1, 0), 1);
    }

    /** The last fire of 40 in a flue of ten: the lots 391 to 400. */
    private static void promise32Long() {
        UpTheFlue x = Check.under("adds 1;heavy 0;burns (soot = 40) * (more = 9) * 100;");
        for (int b = 0; b < 10; b++) {
            x.bit(b - 1, 0, 19, b == 0 ? 9 : 0);
        }
        due("not by 39", x.drawn(5, 9, 39, 0), -1);
        due("by 40, at the pot", x.drawn(5, 9, 40, 0), 40);
        due("none of twenty", x.odds(5, 9, 40, 0, 0), 0);
        due("all by 39", x.odds(5, 9, 39, 0, 0), 1);
        for (int seed = 0; seed < 200; seed++) {
            int lot = lots(seed, 400)[399];
            x = Check.under("adds 1;heavy 0;burns (soot = 40) * (more = 9) * " + lot + ";");
            for (int b = 0; b < 10; b += 1) {
                x.bit(b - 1, 0, 19, b == 0 ? 9 : 0);
            }
            due("the last lot is not below itself, seed " + seed, x.drawn(seed, 9, 40, 0), -1);
            x.force(Check.text(x, "adds 1;heavy 0;burns (soot = 40) * (more = 9) * " + (lot + 1) + ";"));
            due("it is below one more, seed " + seed, x.drawn(seed, 9, 40, 0), 40);
        }
    }

    private static int[] lots(int seed, int many) {
        int[] lots = new int[many];
        java.math.BigInteger lot = java.math.BigInteger.valueOf(seed + 1);
        for (int i = 0; i < many; i++) {
            lot = lot.multiply(java.math.BigInteger.valueOf(48271)).mod(java.math.BigInteger.valueOf(2147483647));
            lots[i] = lot.mod(java.math.BigInteger.valueOf(100)).intValue();
        }
        return lots;
    }

    private static void promise32Edges() {
        UpTheFlue x = Check.under("adds 0;heavy 0;burns 100;");
        x.bit(-1, 0, 19, 0);
        due("sure", x.drawn(0, 0, 40, 0), 1);
        due("no fire", x.drawn(0, 0, 0, 0), -1);
        for (int seed : new int[] {-1, 100000, Integer.MIN_VALUE, Integer.MAX_VALUE}) {
            due("seed " + seed, x.drawn(seed, 0, 1, 0), -7);
        }
        for (int many : new int[] {-1, 41, Integer.MIN_VALUE, Integer.MAX_VALUE}) {
            due("many " + many, x.drawn(0, 0, many, 0), -7);
        }
        for (int heatWet : new int[] {-1, 100, Integer.MIN_VALUE, Integer.MAX_VALUE}) {
            due("heatWet " + heatWet, x.drawn(0, 0, 1, heatWet), -7);
        }
        x.bit(0, 0, 19, 0);
        for (int f : new int[] {-1, 0, 2, Integer.MIN_VALUE, Integer.MAX_VALUE}) {
            due("no fireplace " + f, x.drawn(-1, f, 41, 100), -5);
        }
        x = Check.under("adds 0;heavy 0;burns 0;");
        x.bit(-1, 0, 19, 0);
        due("never", x.drawn(0, 0, 40, 99), -1);
    }

    private static void promise33() {
        for (int seed : new int[] {0, 5, 99980, 99990, 99999}) {
            UpTheFlue x = Check.under("adds 0;heavy 0;burns heat * 10 + wet;");
            x.bit(-1, 0, 19, 0);
            for (int burns = 0; burns <= 99; burns++) {
                int nothing = 0;
                for (int i = 0; i < 20; i++) {
                    int[] lots = lots(seed + i, 3);
                    nothing += lots[0] >= burns && lots[1] >= burns && lots[2] >= burns ? 1 : 0;
                }
                int common = java.math.BigInteger.valueOf(nothing).gcd(java.math.BigInteger.valueOf(20)).intValue();
                due("above, seed " + seed + " burns " + burns, x.odds(seed, 0, 3, burns, 0), nothing / common);
                due("below, seed " + seed + " burns " + burns, x.odds(seed, 0, 3, burns, 1), 20 / common);
            }
        }
        UpTheFlue x = Check.under("adds 0;heavy 0;burns heat * 10 + wet;");
        x.bit(-1, 0, 19, 0);
        due("always: 1", x.odds(3, 0, 40, 0, 0), 1);
        due("of 1", x.odds(3, 0, 40, 0, 1), 1);
        due("no fire: 1", x.odds(3, 0, 0, 99, 0), 1);
        due("never: 0", x.odds(3, 0, 40, 99, 0), 0);
        due("of 1", x.odds(3, 0, 40, 99, 1), 1);
        x.lay(0, 8);
        x.force(0);
        x.odds(3, 0, 40, 99, 1);
        due("soot is as it was", x.told(0, 6), 8);
    }

    private static void promise33Edges() {
        UpTheFlue x = new UpTheFlue();
        x.bit(-1, 0, 19, 0);
        for (int seed : new int[] {-1, 100000, Integer.MIN_VALUE, Integer.MAX_VALUE}) {
            due("seed " + seed, x.odds(seed, 0, 1, 0, 0), UpTheFlue.NO);
        }
        for (int many : new int[] {-1, 41, Integer.MIN_VALUE, Integer.MAX_VALUE}) {
            due("many " + many, x.odds(0, 0, many, 0, 0), UpTheFlue.NO);
        }
        for (int heatWet : new int[] {-1, 100, Integer.MIN_VALUE, Integer.MAX_VALUE}) {
            due("heatWet " + heatWet, x.odds(0, 0, 1, heatWet, 0), UpTheFlue.NO);
        }
        for (int part : new int[] {-1, 2, Integer.MIN_VALUE, Integer.MAX_VALUE}) {
            due("part " + part, x.odds(0, 0, 1, 0, part), UpTheFlue.NO);
        }
        x.bit(0, 0, 19, 0);
        for (int f : new int[] {-1, 0, 2, Integer.MIN_VALUE, Integer.MAX_VALUE}) {
            due("no fireplace " + f, x.odds(0, f, 1, 0, 0), UpTheFlue.NO);
        }
        due("SURE", x.odds(0, 1, 40, 0, 1), 1);
    }

    private static void promise34() {
        UpTheFlue x = new UpTheFlue();
        due("no bits", x.image(), 0);
        due("back to none", x.back(), 0);
        x.bit(-1, 0, 19, 0);
        x.bit(-1, 0, 19, 0);
        due("two", x.image(), 2);
        due("nothing changed", x.count(0), 2);
        x.lay(0, 5);
        due("a second image", x.image(), 2);
        x.lay(0, 6);
        x.back();
        due("is the one that is kept", x.told(0, 6), 5);
    }

    private static void promise35() {
        UpTheFlue x = new UpTheFlue();
        due("no image", x.back(), -3);
        Check.text(x, "adds 0;heavy 1;burns 0;");
        Check.text(x, "adds 0;heavy 2;burns 0;");
        x.bit(-1, 0, 19, 3);
        x.bit(0, 1, 28, 4);
        x.lay(0, 30);
        x.lay(1, 40);
        x.force(1);
        x.image();
        x.force(2);
        x.mend(0, 5, 6);
        x.mend(1, 2, 7);
        x.lay(0, 1);
        x.lay(1, 2);
        x.sheet(0, 2, 3);
        Check.feed(x, "abc");
        Check.text(x, ";adds");
        Check.feed(x, "xy");
        due("back", x.back(), 2);
        int[][] told = {{0, -1, 1, 9, 0, 3, 30}, {1, 0, 2, 8, 0, 4, 40}};
        for (int b = 0; b < 2; b++) {
            for (int what = 0; what < told[b].length; what++) {
                due("told " + b + " " + what, x.told(b, what), told[b][what]);
            }
        }
        due("law", x.count(4), 1);
        due("it says", x.needs(1), 1);
        due("texts stay", x.count(3), 3);
        due("the tape stays", x.count(5), 2);
        due("sheets stay", x.cell(0, 2, 0), 1);
        x.lay(0, 77);
        x.force(0);
        due("back once more", x.back(), 2);
        due("soot once more", x.told(0, 6), 30);
        due("law once more", x.count(4), 1);
    }

    private static void promise35Bits() {
        UpTheFlue x = new UpTheFlue();
        x.bit(-1, 0, 19, 0);
        x.image();
        x.bit(0, 0, 19, 0);
        x.bit(-1, 0, 19, 0);
        x.lay(1, 9);
        due("0 is no fireplace", x.all(0), 6);
        due("back to one", x.back(), 1);
        due("bits", x.count(0), 1);
        due("0 is one again", x.all(0), 1);
        due("none is 1", x.told(1, 0), -5);
        due("none is above it", x.bit(1, 0, 19, 0), -2);
        due("1 comes anew", x.bit(-1, 3, 25, 12), 1);
        due("with its own", x.told(1, 3), 5);
        due("without soot", x.told(1, 6), 0);
        x.image();
        x.lay(1, 9);
        for (int b = 2; b < 10; b++) {
            x.bit(1, 0, 19, 0);
        }
        due("full", x.bit(-1, 0, 19, 0), -4);
        due("back to two", x.back(), 2);
        due("room again", x.bit(0, 0, 19, 0), 2);
        due("1 is a fireplace", x.all(0), 6);
    }
}
