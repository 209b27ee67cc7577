/** Edges that the document names, promises 27 to 40: the least, the most, none, all, a wrap, a cut; refusals: see RefusedTest. */
public final class LateEdgesTest {
    private static final Check CHECK = new Check("LateEdgesTest");

    private LateEdgesTest() {
    }

    public static void main(String[] args) {
        promise27Forty();
        promise27Negative();
        promise28All();
        promise29Six();
        promise30Most();
        promise30Kinds();
        promise31Sizes();
        promise32First();
        promise33LowestTerms();
        promise34Again();
        promise35Nothing();
        promise35All();
        promise36EachSize();
        promise37EachByte();
        promise37Shorts();
        promise38EachPlace();
        promise38Forty();
        promise39ToTheEnd();
        promise39LeftOut();
        promise39WhatStoodAhead();
        promise40Places();
        CHECK.end();
    }

    private static void due(String call, long got, long want) {
        CHECK.due(call, got, want);
    }

    /** Forty told of sixty rods: what lies behind is not told. */
    private static void promise27Forty() {
        UpTheFlue x = Check.under("adds 0;heavy soot;burns 0;");
        Check.flueOf(x, 10, 0, 69, 0);
        for (int b = 0; b < 10; b++) {
            x.lay(b, 10 * b + 9);
        }
        for (int sort = 0; sort < 3; sort++) {
            x.sheet(0, sort, 40);
            for (int i = 0; i < 40; i++) {
                due("told so far", x.judge(0, 9), i + 1);
                x.cell(0, i, 10 * (9 - i / 6) + 9);
            }
            due("all told", x.judge(0, 9), -1);
            x.lay(0, 0);
            due("what isn't told", x.judge(0, 9), -1);
            x.lay(3, 0);
            due("rod 37 is the first of 3", x.judge(0, 9), 37);
            x.lay(3, 39);
            x.cell(0, 39, 40);
            due("the last", x.judge(0, 9), 40);
            x.cell(0, 20, -1);
            due("the first of two", x.judge(0, 9), 21);
        }
    }

    private static void promise27Negative() {
        UpTheFlue x = Check.under("adds 0;heavy 0;burns 0;");
        Check.flueOf(x, 1, 0, 19, 0);
        for (int number : new int[] {-2, 1, 99, Integer.MIN_VALUE, Integer.MAX_VALUE}) {
            Check.tell(x, 0, 2, 0, number);
            due("through is -1 alone, not " + number, x.judge(0, 0), 2);
            Check.tell(x, 0, 2, number);
            due("heavy is 0, not " + number, x.judge(0, 0), 1);
        }
        Check.tell(x, 0, 2, -1);
        due("not yet through", x.judge(0, 0), 1);
        Check.tell(x, 0, 2, 0, -1, -1, 0);
        due("through, and so on", x.judge(0, 0), 4);
    }

    private static void promise28All() {
        UpTheFlue x = new UpTheFlue();
        x.sheet(0, 0, 0);
        due("no bits", x.whose(0), 0);
        for (int b = 0; b < 10; b++) {
            x.bit(-1, 0, 10, b % 4 * 10);
        }
        due("nothing told: all ten", x.whose(0), 1023);
        for (int bent = 0; bent < 4; bent++) {
            Check.tell(x, 0, 2, 5 * bent, -1);
            due("bent " + bent, x.whose(0), new int[] {1 + 16 + 256, 2 + 32 + 512, 4 + 64, 8 + 128}[bent]);
        }
        Check.tell(x, 0, 2, 5, 5);
        due("one rod too many", x.whose(0), 0);
    }

    private static void promise29Six() {
        UpTheFlue x = new UpTheFlue();
        Check.flueOf(x, 1, 0, 10, 0);
        x.sheet(0, 2, 0);
        due("the one text", x.laws(0, 0), 1);
        for (int t = 1; t < 6; t++) {
            due("text " + t, Check.text(x, "adds 0;heavy " + 10 * t + ";burns 0;"), t);
        }
        due("nothing told: all six", x.laws(0, 0), 63);
        for (int t = 0; t < 6; t++) {
            Check.tell(x, 0, 2, 10 * t, -1);
            for (int law = 0; law < 6; law++) {
                x.force(law);
                due("text " + t + ", whichever is the law", x.laws(0, 0), 1 << t);
                due("the law is as it was", x.count(4), law);
                due("and is judged by", x.judge(0, 0), law == t ? -1 : 1);
            }
        }
    }

    private static void promise30Most() {
        UpTheFlue x = new UpTheFlue();
        Check.flueOf(x, 10, 0, 69, 0);
        x.sheet(0, 2, 0);
        due("nothing told: ten times nine", x.blocked(0, 9, 1), 90);
        due("the fireplace's with 1", x.blocked(0, 9, 0), 91);
        x = Check.under("adds 0;heavy 50 - wide;burns 0;");
        Check.flueOf(x, 1, 0, 19, 0);
        Check.tell(x, 0, 2, 41);
        due("not with 0", x.blocked(0, 0, 1), 0);
        due("none", x.blocked(0, 0, 0), -1);
        for (int more = 1; more <= 9; more++) {
            Check.tell(x, 0, 2, 41 + more, -1);
            due("bit 0 with " + more, x.blocked(0, 0, 0), more);
            due("that alone", x.blocked(0, 0, 1), 1);
        }
        Check.tell(x, 0, 2, 51);
        due("not with 10", x.blocked(0, 0, 1), 0);
    }

    /** Whichever kind it is, it were a BLOCKED; the others are as they are. */
    private static void promise30Kinds() {
        for (int kind = 0; kind < 6; kind++) {
            UpTheFlue x = Check.under("adds 0;heavy 50 - wide;burns 0;");
            x.bit(-1, 0, 16, 0);
            x.bit(0, kind, 18, 3);
            x.lay(1, 25);
            int is = kind == 2 ? 5 : kind == 4 ? 3 : 8;
            due("IS", x.told(1, 7), is);
            Check.tell(x, 0, 2, 50 - 6, 50 - 6, -1);
            due("1 with 2, not by its soot, kind " + kind, x.blocked(0, 1, 0), 12);
            due("that alone", x.blocked(0, 1, 1), 1);
            Check.tell(x, 0, 2, 50 - is, 50 - 5, -1);
            due("0 with 1, 1 as it is, kind " + kind, x.blocked(0, 1, 1), 1);
            due("bit 0 with 1", x.blocked(0, 1, 0), 1);
            due("KIND is as it was", x.told(1, 0), kind);
            due("MORE is as it was", x.told(1, 5), 3);
            due("IS as it was", x.told(1, 7), is);
        }
    }

    private static void promise31Sizes() {
        for (int n = 0; n <= 40; n++) {
            UpTheFlue x = Check.under("adds 0;heavy soot;burns 0;");
            Check.flueOf(x, 5, 0, 69, 0);
            for (int b = 0; b < 5; b++) {
                x.lay(b, 90 + b);
            }
            x.sheet(1, 0, 40 - n);
            due("film of " + n, x.film(1, 4, n), n);
            due("not one more", x.cell(1, n, 0), -12);
            due("of ints", x.bitsBy(1, 2, 0, 0), 0);
            due("as it is", x.judge(1, 4), -1);
            for (int i = 0; i < n; i++) {
                x.cell(1, i, 50);
                due("otherwise", x.judge(1, 4), i + 1);
                x.cell(1, i, i < 30 ? 90 + (4 - i / 6) : -1);
                due("so it was", x.judge(1, 4), -1);
            }
        }
    }

    /** It burns by the fire that is told, not by one less. */
    private static void promise32First() {
        for (int fire = 1; fire <= 40; fire++) {
            UpTheFlue x = Check.under("adds 1;heavy 0;burns (soot = " + fire + ") * 100;");
            Check.flueOf(x, 2, 0, 19, 0);
            for (int seed : new int[] {0, 99999}) {
                due("by " + fire, x.drawn(seed, 1, 40, 0), fire);
                due("of so many", x.drawn(seed, 1, fire, 0), fire);
                due("of one less", x.drawn(seed, 1, fire - 1, 0), -1);
                due("never, of one less", x.odds(seed, 1, fire - 1, 99, 0), 1);
                due("always", x.odds(seed, 1, fire, 99, 0), 0);
            }
        }
    }

    /** Of the first lots of the seeds 0 .. 19 each number of twenty may be below what burns. */
    private static void promise33LowestTerms() {
        int[] lots = {71, 42, 13, 84, 55, 26, 97, 68, 39, 10, 81, 52, 23, 94, 65, 36, 7, 78, 49, 20};
        int[][] terms = {{0, 1}, {1, 20}, {1, 10}, {3, 20}, {1, 5}, {1, 4}, {3, 10}, {7, 20}, {2, 5}, {9, 20}, {1, 2},
            {11, 20}, {3, 5}, {13, 20}, {7, 10}, {3, 4}, {4, 5}, {17, 20}, {9, 10}, {19, 20}, {1, 1}};
        UpTheFlue x = Check.under("adds 0;heavy 0;burns soot;");
        Check.flueOf(x, 1, 0, 19, 0);
        java.util.Arrays.sort(lots);
        for (int nothing = 0; nothing <= 20; nothing++) {
            // One above the lot that must be below it.
            x.lay(0, nothing == 20 ? 7 : lots[19 - nothing] + 1);
            due("above, " + nothing + " of twenty", x.odds(0, 0, 1, 0, 0), terms[nothing][0]);
            due("below, " + nothing + " of twenty", x.odds(0, 0, 1, 0, 1), terms[nothing][1]);
        }
    }

    private static void promise34Again() {
        UpTheFlue x = new UpTheFlue();
        for (int b = 0; b <= 10; b++) {
            due("image of " + b, x.image(), b);
            due("back to all of them", x.back(), b);
            due("bits", x.count(0), b);
            x.bit(b - 1, 0, 19, 0);
        }
        due("ten at most", x.image(), 10);
    }

    private static void promise35Nothing() {
        UpTheFlue x = new UpTheFlue();
        due("none is kept", x.back(), -3);
        due("an image of nothing", x.image(), 0);
        Check.text(x, "adds 0;heavy 5;burns 0;");
        x.force(1);
        for (int b = 0; b < 10; b++) {
            x.bit(b - 1, 5, 69, 49);
            x.lay(b, 99);
        }
        due("back to none", x.back(), 0);
        due("fireplaces", x.count(1), 0);
        due("pots", x.count(2), 0);
        due("the law", x.count(4), 0);
        due("the text stays", x.count(3), 2);
        due("none there", x.told(0, 6), -5);
        due("nothing lies there", x.taken(10, 6), -11);
        due("no one's", x.smokes(99), 0);
        due("one comes", x.bit(-1, 2, 34, 5), 0);
        int[] told = {2, -1, 3, 4, 0, 5, 0, 0, 0};
        for (int what = 0; what < told.length; what++) {
            due("as it came, told " + what, x.told(0, what), told[what]);
        }
        due("it ends in a pot", x.all(1), 1);
        due("it is a fireplace", x.all(0), 1);
        due("back again", x.back(), 0);
    }

    /** Fires, sweeping, mending, laying since: all is as it was, of ten. */
    private static void promise35All() {
        UpTheFlue x = new UpTheFlue();
        for (int b = 0; b < 10; b++) {
            x.bit(b - 1, b % 6, 69, b);
            x.lay(b, 5 * b);
        }
        due("image", x.image(), 10);
        x.fire(9, 20, 99);
        x.sweep(9, 99);
        for (int b = 0; b < 10; b++) {
            x.mend(b, (b + 1) % 6, 9 - b);
            x.lay(b, 98 - b);
        }
        due("back", x.back(), 10);
        for (int b = 0; b < 10; b++) {
            due("KIND of " + b, x.told(b, 0), b % 6);
            due("ABOVE it", x.told(b, 1), b - 1);
            due("MORE", x.told(b, 5), b);
            due("SOOT", x.told(b, 6), 5 * b);
        }
        due("fireplaces", x.all(0), 512);
        x.lay(9, 1);
        due("another image", x.image(), 10);
        x.lay(9, 2);
        due("back to that", x.back(), 10);
        due("its soot", x.told(9, 6), 1);
    }

    private static void promise36EachSize() {
        for (int sort = 0; sort < 3; sort++) {
            UpTheFlue x = new UpTheFlue();
            for (int n = 40; n >= 0; n--) {
                due("sheet of " + n, x.sheet(3, sort, n), 1);
                due("not one more", x.cell(3, n, 1), -12);
                due("the last", x.cell(3, n - 1, 1), n == 0 ? -12 : 1);
                due("to its end", x.copy(3, 0, 3, 0, n), n);
                due("not past it", x.copy(3, 0, 3, 0, n + 1), -12);
            }
        }
        UpTheFlue x = Check.under("adds 0;heavy 0;burns 0;");
        Check.flueOf(x, 10, 0, 69, 0);
        for (int sort = 0; sort < 3; sort++) {
            x.sheet(0, sort, 40);
            for (int i = 0; i < 40; i++) {
                x.cell(0, i, 1);
            }
            due("it tells 1", x.judge(0, 9), 1);
            x.sheet(0, sort, 40);
            due("all 0 anew", x.judge(0, 9), -1);
        }
    }

    /** One rod of heavy what is laid, then through: what a cell holds, if it is -1 .. 99. */
    private static int held(int sort, int v) {
        UpTheFlue x = Check.under("adds 0;heavy soot;burns 0;");
        Check.flueOf(x, 1, 0, 10, 0);
        Check.tell(x, 0, sort, 0, v);
        if (x.judge(0, 0) == -1) {
            return -1;
        }
        x.copy(0, 1, 0, 0, 1);
        for (int soot = 0; soot <= 99; soot++) {
            x.lay(0, soot);
            if (x.judge(0, 0) != 1) {
                return soot;
            }
        }
        return -99;
    }

    private static void promise37EachByte() {
        for (int base : new int[] {-512, -256, 0, 256, 1 << 20, Integer.MIN_VALUE}) {
            for (int low : new int[] {0, 1, 2, 50, 98, 99, 100, 127, 128, 200, 254, 255}) {
                due("a byte of " + (base + low), held(0, base + low), low <= 99 ? low : low == 255 ? -1 : -99);
            }
        }
        due("of the greatest int", held(0, Integer.MAX_VALUE), -1);
    }

    private static void promise37Shorts() {
        for (int base : new int[] {-65536, 0, 65536, 1 << 30, Integer.MIN_VALUE}) {
            for (int low : new int[] {0, 1, 99, 100, 255, 256, 256 + 9, 32767, 32768, 32768 + 9, 65534, 65535}) {
                due("a short of " + (base + low), held(1, base + low), low <= 99 ? low : low == 65535 ? -1 : -99);
            }
        }
        due("of the greatest int", held(1, Integer.MAX_VALUE), -1);
        for (int v : new int[] {-1, 0, 99}) {
            due("an int", held(2, v), v);
        }
        for (int v : new int[] {-2, 100, 255, 256, 65535, 65536, 1 << 24, Integer.MIN_VALUE, Integer.MAX_VALUE}) {
            due("an int is not cut", held(2, v), -99);
        }
    }

    /** That a sheet holds these numbers (0 .. 99), at most ten. */
    private static boolean holds(UpTheFlue x, int s, int... numbers) {
        for (int i = 0; i < numbers.length; i++) {
            x.lay(9 - i, numbers[i]);
        }
        return x.judge(s, 9) == -1 && x.cell(s, numbers.length, 0) == -12;
    }

    /** All places from one below to one above, to another one and to its own. */
    private static void promise38EachPlace() {
        for (int other = 0; other <= 1; other++) {
            for (int i = -1; i <= 5; i++) {
                for (int j = -1; j <= 5; j++) {
                    for (int n = -1; n <= 5; n++) {
                        copied(i, other, j, n);
                    }
                }
            }
        }
    }

    private static void copied(int i, int other, int j, int n) {
        UpTheFlue x = Check.under("adds 0;heavy soot;burns 0;");
        Check.flueOf(x, 10, 0, 10, 0);
        Check.tell(x, 0, 1, 20, 21, 22, 23);
        Check.tell(x, 1, 1, 30, 31, 32);
        int[] from = {20, 21, 22, 23};
        int[] to = other == 0 ? from : new int[] {30, 31, 32};
        boolean inside = i >= 0 && j >= 0 && n >= 0 && i + n <= 4 && j + n <= to.length;
        String call = "copy " + i + " " + other + " " + j + " " + n;
        due(call, x.copy(0, i, other, j, n), inside ? n : -12);
        if (inside) {
            System.arraycopy(from, i, to, j, n);
        }
        CHECK.isTrue("behind " + call + " it holds its own", holds(x, 0, from));
        CHECK.isTrue("behind " + call + " the other holds them", holds(x, other, to));
    }

    private static void promise38Forty() {
        UpTheFlue x = Check.under("adds 0;heavy soot;burns 0;");
        Check.flueOf(x, 10, 0, 49, 0);
        for (int b = 0; b < 10; b++) {
            x.lay(b, 3 * b);
        }
        x.film(0, 9, 40);
        x.sheet(1, 2, 40);
        due("not yet", x.judge(1, 9), 1);
        due("forty", x.copy(0, 0, 1, 0, 40), 40);
        due("as it is", x.judge(1, 9), -1);
        due("none behind the end", x.copy(0, 40, 1, 40, 0), 0);
        due("one too many", x.copy(0, 0, 1, 0, 41), -12);
        due("up by one", x.copy(1, 0, 1, 1, 39), 39);
        due("the fifth rod is now the fourth's", x.judge(1, 9), 5);
        due("down by one", x.copy(1, 1, 1, 0, 39), 39);
        due("as it was, to the last", x.judge(1, 9), -1);
    }

    private static void promise39ToTheEnd() {
        for (int size = 0; size <= 12; size++) {
            for (int at = -1; at <= size; at++) {
                UpTheFlue x = new UpTheFlue();
                x.sheet(0, 2, size);
                for (int i = 0; i < size; i++) {
                    // Whichever the place: -1, 0, 11, 0 from there on.
                    x.cell(0, i, Math.floorMod(i - at, 4) == 0 ? -1 : Math.floorMod(i - at, 4) == 2 ? 11 : 0);
                }
                int room = at < 0 ? 0 : (size - at) / 4;
                due("one more than there are", x.bitsBy(0, 2, at, room + 1), -12);
                due("what stood ahead came", x.count(0), room);
                due("as many as there are", x.bitsBy(0, 2, at, room), room);
                due("twice by now", x.count(0), 2 * room);
                due("none", x.bitsBy(0, 2, at, 0), 0);
            }
        }
        UpTheFlue x = new UpTheFlue();
        x.sheet(0, 0, 40);
        for (int b = 0; b < 10; b++) {
            x.cell(0, 4 * b, b - 1);
            x.cell(0, 4 * b + 2, 69);
            x.cell(0, 4 * b + 3, 49);
        }
        due("ten, each below the one that came ahead of it", x.bitsBy(0, 0, 0, 10), 10);
        due("one flue", x.flue(9, 1), 1023);
        due("full: all are left out", x.bitsBy(0, 0, 0, 10), 0);
    }

    private static void promise39LeftOut() {
        int[][] bad = {{-2, 0, 11, 0}, {1, 0, 11, 0}, {10, 0, 11, 0}, {-1, -1, 11, 0}, {-1, 6, 11, 0}, {-1, 0, 9, 0},
            {-1, 0, 70, 0}, {-1, 0, 11, -1}, {-1, 0, 11, 50}, {Integer.MAX_VALUE, Integer.MIN_VALUE, 0, 0}};
        for (int[] each : bad) {
            UpTheFlue x = new UpTheFlue();
            Check.tell(x, 2, 2, -1, 0, 11, 0, each[0], each[1], each[2], each[3], 0, 5, 69, 49);
            due("two of three came", x.bitsBy(2, 2, 0, 3), 2);
            due("bits", x.count(0), 2);
            due("the third is bit 1", x.told(1, 0), 5);
            due("below bit 0", x.told(1, 1), 0);
            due("none of one", x.bitsBy(2, 2, 4, 1), each[0] == 1 ? 1 : 0);
        }
        for (int stand = 0; stand <= 10; stand++) {
            UpTheFlue x = new UpTheFlue();
            Check.flueOf(x, stand, 0, 19, 0);
            Check.tell(x, 1, 1, -1, 0, 11, 0, -1, 0, 22, 0, -1, 0, 33, 0);
            due("by " + stand + ": room for", x.bitsBy(1, 1, 0, 3), Math.min(3, 10 - stand));
            due("ten at most", x.count(0), Math.min(10, stand + 3));
        }
    }

    private static void promise39WhatStoodAhead() {
        UpTheFlue x = new UpTheFlue();
        Check.tell(x, 0, 2, -1, 0, 11, 0, 5, 0, 11, 0, 0, 0, 22, 7, -1, 0, 11);
        due("three and a half", x.bitsBy(0, 2, 0, 4), -12);
        due("two of the three came", x.count(0), 2);
        due("the third", x.told(1, 5), 7);
        x = new UpTheFlue();
        Check.flueOf(x, 9, 0, 19, 0);
        due("the sheet", x.sheet(0, 2, 39), 1);
        for (int i = 0; i < 39; i++) {
            x.cell(0, i, i % 4 == 2 ? 11 : 0);
        }
        due("nine and three numbers", x.bitsBy(0, 2, 0, 10), -12);
        due("one came, eight had no room", x.count(0), 10);
        due("full", x.bitsBy(0, 2, 0, 9), 0);
        due("outside, though it is full", x.bitsBy(0, 2, 0, 10), -12);
    }

    private static void promise40Places() {
        UpTheFlue x = new UpTheFlue();
        for (int b = 0; b < 10; b++) {
            due("nothing yet", x.taken(b, 0), -11);
            x.bit(b - 1, b % 6, 19, 0);
            due("a BIT", x.taken(b, 0), b);
            due("of its KIND", x.taken(b, b % 6), b);
            due("is no SOOT", x.taken(b, 6), -13);
            due("it has none", x.taken(10 + b, 6), -11);
            due("none that were a BIT", x.taken(10 + b, 0), -11);
            x.lay(b, b + 1);
            due("SOOT", x.taken(10 + b, 6), b + 1);
            for (int kind = 0; kind < 6; kind++) {
                due("is no BIT", x.taken(10 + b, kind), -13);
            }
        }
        x.sweep(9, 99);
        due("swept", x.taken(19, 6), x.told(9, 6) == 0 ? -11 : x.told(9, 6));
        due("a TARRED has half of it", x.taken(19, 6), 5);
        due("a BLOCKED has none", x.taken(18, 6), -11);
    }
}
