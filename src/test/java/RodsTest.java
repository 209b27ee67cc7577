/** Promises 14 to 17: rods, where a brush stays, sweeping, what it needs. */
public final class RodsTest {
    private static final Check CHECK = new Check("RodsTest");
    private static final int[] NO_NUMBER = {-1, 100, Integer.MIN_VALUE, Integer.MAX_VALUE};

    private RodsTest() {
    }

    public static void main(String[] args) {
        promise14();
        promise15();
        promise16();
        promise16Kinds();
        promise17();
        CHECK.end();
    }

    private static void due(String call, long got, long want) {
        CHECK.due(call, got, want);
    }

    /** The flue of 3: 3 (LONG 2, heavy 10 + 20 - 5 = 25), 2 (LONG 1, 0 + 47 - 7 = 40), 0 (LONG 3, 5 + 3 - 8 = 0). */
    private static UpTheFlue house() {
        UpTheFlue x = new UpTheFlue();
        x.bit(-1, 0, 38, 10);
        x.bit(0, 0, 69, 0);
        x.bit(0, 0, 17, 0);
        x.bit(2, 0, 25, 20);
        x.lay(0, 3);
        x.lay(2, 47);
        x.lay(3, 20);
        return x;
    }

    private static void promise14() {
        UpTheFlue x = house();
        int[] bits = {3, 3, 2, 0, 0, 0, -1, -1};
        int[] heavy = {25, 25, 40, 0, 0, 0, -1, -1};
        for (int rods = 1; rods <= 8; rods++) {
            due("rod 3 " + rods, x.rod(3, rods, 0), bits[rods - 1]);
            due("heavy 3 " + rods, x.rod(3, rods, 1), heavy[rods - 1]);
        }
        due("60 rods", x.rod(3, 60, 0), -1);
        due("60 rods, heavy", x.rod(3, 60, 1), -1);
        due("another flue", x.rod(1, 7, 0), 0);
        for (int rods : new int[] {0, 61, -1, Integer.MIN_VALUE, Integer.MAX_VALUE}) {
            due("rods " + rods, x.rod(3, rods, 0), -7);
        }
        due("what 2", x.rod(3, 1, 2), -7);
        due("what -1", x.rod(3, 1, -1), -7);
        for (int f : new int[] {-1, 0, 2, 4, Integer.MIN_VALUE, Integer.MAX_VALUE}) {
            due("no fireplace " + f, x.rod(f, 0, 2), -5);
        }
        x.mend(3, 2, 5);
        due("0 wide, heavy all the same: 10 + 20 - 0", x.rod(3, 1, 1), 30);
        Check.text(x, "adds 0;heavy heat + wet + 8;burns 0;");
        x.force(1);
        due("without a fire", x.rod(3, 1, 1), 8);
        UpTheFlue long60 = new UpTheFlue();
        for (int b = 0; b < 10; b++) {
            long60.bit(b - 1, 0, 69, 0);
        }
        due("the last rod of 60", long60.rod(9, 60, 0), 0);
        due("of 54", long60.rod(9, 54, 0), 1);
        due("of 55", long60.rod(9, 55, 0), 0);
    }

    private static void promise15() {
        UpTheFlue x = house();
        int[][] due = {{0, 3, 0}, {24, 3, 0}, {25, 2, 2}, {39, 2, 2}, {40, -1, 6}, {99, -1, 6}};
        for (int[] each : due) {
            due("stays by " + each[0], x.push(3, each[0], 0), each[1]);
            due("rods by " + each[0], x.push(3, each[0], 1), each[2]);
        }
        x.mend(0, 2, 8);
        due("stays where it is 0 wide", x.push(3, 99, 0), 0);
        due("rods to there", x.push(3, 99, 1), 3);
        x.mend(0, 2, 7);
        due("1 wide is wide enough: 5 + 3 - 1 = 7", x.push(3, 99, 0), -1);
        for (int force : NO_NUMBER) {
            due("force " + force, x.push(3, force, 0), -7);
        }
        due("what 2", x.push(3, 0, 2), -7);
        due("what -1", x.push(3, 0, -1), -7);
        for (int f : new int[] {-1, 0, 2, 4}) {
            due("no fireplace " + f, x.push(f, -1, 2), -5);
        }
        due("soot stays", x.told(3, 6), 20);
    }

    private static void promise16() {
        UpTheFlue x = house();
        due("it stays in the first", x.sweep(3, 24), 0);
        due("soot stays", x.told(3, 6), 20);
        due("swept ahead of 2", x.sweep(3, 39), 20);
        due("3 is clean", x.told(3, 6), 0);
        due("2 is not", x.told(2, 6), 47);
        due("0 is not", x.told(0, 6), 3);
        due("all", x.sweep(3, 40), 50);
        due("clean", x.told(0, 6) + x.told(2, 6) + x.told(3, 6), 0);
        due("nothing goes", x.sweep(3, 99), 0);
        x.lay(3, 5);
        x.mend(3, 1, 0);
        Check.text(x, "adds 0;heavy 0;burns 0;");
        x.force(1);
        due("force 0 is one", x.sweep(3, 0), 5);
        for (int force : NO_NUMBER) {
            due("force " + force, x.sweep(3, force), -7);
        }
        for (int f : new int[] {-1, 0, 2, 4}) {
            due("no fireplace " + f, x.sweep(f, -1), -5);
        }
    }

    private static void promise16Kinds() {
        int[] left = {0, 0, 0, 16, 33, 0};
        for (int kind = 0; kind < 6; kind++) {
            UpTheFlue x = new UpTheFlue();
            x.bit(-1, kind, 19, 1);
            x.lay(0, 33);
            due("went, kind " + kind, x.sweep(0, 99), 33 - left[kind]);
            due("left, kind " + kind, x.told(0, 6), left[kind]);
        }
        UpTheFlue x = new UpTheFlue();
        x.bit(-1, 0, 19, 0);
        x.bit(0, 4, 19, 0);
        x.lay(0, 10);
        x.lay(1, 90);
        due("a LOST full of soot stays the brush", x.sweep(1, 99), 0);
        x.lay(1, 89);
        due("one that is 1 wide lets it through", x.sweep(1, 99), 10);
        due("its soot is left", x.told(1, 6), 89);
    }

    private static void promise17() {
        UpTheFlue x = house();
        due("the greatest", x.needs(3), 40);
        due("of another flue: 0 + 0 - 9, and 0", x.needs(1), 0);
        due("force that needs is enough", x.push(3, x.needs(3), 0), -1);
        x.mend(2, 2, 6);
        due("0 + 47 - 1", x.needs(3), 46);
        x.mend(2, 2, 7);
        due("0 wide", x.needs(3), -1);
        due("not of that flue", x.needs(1), 0);
        x.mend(0, 4, 8);
        due("0 wide at the pot", x.needs(1), -1);
        for (int f : new int[] {-1, 0, 2, 4, Integer.MIN_VALUE, Integer.MAX_VALUE}) {
            due("no fireplace " + f, x.needs(f), -5);
        }
    }
}
