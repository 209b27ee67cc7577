/** Promises 18 to 21: fires, smoke, draw. */
public final class FiresTest {
    private static final Check CHECK = new Check("FiresTest");

    private FiresTest() {
    }

    public static void main(String[] args) {
        promise18();
        promise18Kinds();
        promise18Soot();
        promise19();
        promise20();
        promise21();
        CHECK.end();
    }

    private static void due(String call, long got, long want) {
        CHECK.due(call, got, want);
    }

    private static void promise18() {
        UpTheFlue x = new UpTheFlue();
        x.bit(-1, 0, 19, 0);
        x.bit(0, 0, 19, 0);
        x.bit(0, 0, 19, 0);
        due("1 + 3 + 2 * 4 = 12 each", x.fire(1, 1, 34), 24);
        due("of 1", x.told(1, 6), 12);
        due("of 0", x.told(0, 6), 12);
        due("2 is not of that flue", x.told(2, 6), 0);
        due("two more", x.fire(1, 2, 0), 28);
        due("from the other side: 14 + 20, 20", x.fire(2, 20, 0), 54);
        due("99 at most", x.fire(2, 20, 99), 198);
        due("of 1 still", x.told(1, 6), 14);
        for (int many : new int[] {0, 21, -1, Integer.MIN_VALUE, Integer.MAX_VALUE}) {
            due("many " + many, x.fire(1, many, 0), -7);
        }
        for (int heatWet : new int[] {-1, 100, Integer.MIN_VALUE, Integer.MAX_VALUE}) {
            due("heatWet " + heatWet, x.fire(1, 1, heatWet), -7);
        }
        for (int f : new int[] {-1, 0, 3, Integer.MIN_VALUE, Integer.MAX_VALUE}) {
            due("no fireplace " + f, x.fire(f, 0, 100), -5);
        }
        due("nothing came by these", x.told(1, 6), 14);
    }

    private static void promise18Kinds() {
        // 1 + 5 + 2 * 3 = 12: what grows by MORE 4.
        int[] grows = {12, 16, 12, 16, 12, 6};
        for (int kind = 0; kind < 6; kind++) {
            UpTheFlue x = new UpTheFlue();
            x.bit(-1, kind, 19, 4);
            due("kind " + kind, x.fire(0, 1, 53), grows[kind]);
        }
        UpTheFlue x = new UpTheFlue();
        x.bit(-1, 5, 19, 0);
        due("half of 1 is cut", x.fire(0, 1, 0), 0);
        due("half of 3", x.fire(0, 1, 1), 1);
        Check.text(x, "adds 200;heavy 0;burns 0;");
        x.force(1);
        due("half of the bound", x.fire(0, 1, 0), 50);
        x.lay(0, 0);
        x.mend(0, 1, 9);
        due("more than the bound is cut", x.fire(0, 1, 0), 99);
    }

    /** What adds says goes by the soot, and by how wide it is, fire by fire. */
    private static void promise18Soot() {
        UpTheFlue x = new UpTheFlue();
        x.bit(-1, 4, 19, 0);
        Check.text(x, "adds 10 - wide + soot * 2;heavy 0;burns 0;");
        x.force(1);
        due("10 - 9", x.fire(0, 1, 0), 1);
        due("1 + 10 - 9 + 2", x.fire(0, 1, 0), 4);
        due("4 + 10 - 9 + 8", x.fire(0, 1, 0), 13);
        due("13 + 10 - 8 + 26", x.fire(0, 1, 0), 41);
        x.lay(0, 0);
        due("the same by three at once", x.fire(0, 4, 0), 41);
    }

    private static void promise19() {
        UpTheFlue x = new UpTheFlue();
        x.bit(-1, 5, 19, 9);
        x.bit(0, 0, 19, 9);
        x.bit(1, 5, 19, 3);
        x.bit(1, 5, 19, 1);
        // Up 2: 300 of 1000 out of 2, none out of 1, 630 of 700 out of 0.
        due("out of 2", x.smoke(2, 2, 0), 300);
        due("out of 1", x.smoke(2, 1, 0), 0);
        due("out of 0", x.smoke(2, 0, 0), 630);
        due("not of the flue", x.smoke(2, 3, 0), 0);
        due("left", x.smoke(2, 0, 1), 70);
        due("left, whichever b", x.smoke(2, 3, 1), 70);
        due("up 3: 900, of it 810", x.smoke(3, 0, 0), 810);
        due("left", x.smoke(3, 0, 1), 90);
        x.bit(3, 5, 19, 7);
        x.mend(0, 5, 3);
        x.mend(1, 5, 5);
        x.mend(3, 5, 1);
        // 1000: 700 go, 300 left: 30 go, 270 left: 135 go, 135 left: 40 (cut) go, 95 left.
        due("out of 4", x.smoke(4, 4, 0), 700);
        due("out of 3", x.smoke(4, 3, 0), 30);
        due("out of 1", x.smoke(4, 1, 0), 135);
        due("cut", x.smoke(4, 0, 0), 40);
        due("left", x.smoke(4, 4, 1), 95);
        due("what 2", x.smoke(2, 2, 2), -7);
        due("what -1", x.smoke(2, 2, -1), -7);
        for (int f : new int[] {-1, 0, 1, 3, 5, Integer.MIN_VALUE, Integer.MAX_VALUE}) {
            due("no fireplace " + f, x.smoke(f, 0, 2), -5);
        }
        for (int b : new int[] {-1, 5, Integer.MIN_VALUE, Integer.MAX_VALUE}) {
            due("no bit " + b, x.smoke(2, b, 2), -5);
        }
    }

    private static void promise20() {
        UpTheFlue x = new UpTheFlue();
        x.bit(-1, 0, 69, 0);
        x.bit(0, 2, 14, 43);
        x.bit(-1, 4, 25, 11);
        // 0: 30; 1: 5 - 8 - (9 - 1) = -11.
        due("no wind", x.draw(1, 0), 19);
        due("wind 20", x.draw(1, 20), -1);
        due("wind 99", x.draw(1, 99), -80);
        x.lay(2, 29);
        due("10 - 2 - (9 - (4 - 2))", x.draw(2, 0), 1);
        x.lay(2, 30);
        due("by its soot", x.draw(2, 0), 0);
        for (int wind : new int[] {-1, 100, Integer.MIN_VALUE, Integer.MAX_VALUE}) {
            due("wind " + wind, x.draw(1, wind), -100000);
        }
        for (int f : new int[] {-1, 0, 3, Integer.MIN_VALUE, Integer.MAX_VALUE}) {
            due("no fireplace " + f, x.draw(f, 0), -100000);
        }
    }

    private static void promise21() {
        UpTheFlue x = new UpTheFlue();
        x.bit(-1, 0, 69, 0);
        x.bit(0, 2, 14, 43);
        x.bit(-1, 0, 29, 0);
        x.bit(0, 0, 19, 0);
        // 1: 19, 2: 10, 3: 35.
        due("none", x.smokes(0), 0);
        due("0 is not below 0", x.smokes(10), 0);
        due("2", x.smokes(11), 4);
        due("2 still", x.smokes(19), 4);
        due("1 and 2", x.smokes(20), 6);
        due("all of them", x.smokes(99), 14);
        for (int wind : new int[] {-1, 100, Integer.MIN_VALUE, Integer.MAX_VALUE}) {
            due("wind " + wind, x.smokes(wind), -2);
        }
        x = new UpTheFlue();
        x.bit(-1, 0, 19, 0);
        due("0 alone", x.smokes(6), 1);
        due("0 alone, by less wind", x.smokes(5), 0);
        due("no bits", new UpTheFlue().smokes(99), 0);
        due("no bits, wind", new UpTheFlue().smokes(100), -2);
    }
}
