/** Promises 1 to 6: a new object, the tape, texts and their faults, the law and what it says. */
public final class LawTest {
    private static final Check CHECK = new Check("LawTest");
    private static final String REST = ";heavy 0;burns 0;";

    private LawTest() {
    }

    public static void main(String[] args) {
        promise1();
        promise2();
        promise3();
        promise4();
        promise4Faults();
        promise4OpenSigns();
        promise4Full();
        promise5();
        promise6();
        promise6Bounds();
        promise6Sayings();
        CHECK.end();
    }

    private static void due(String call, long got, long want) {
        CHECK.due(call, got, want);
    }

    private static void promise1() {
        UpTheFlue x = new UpTheFlue();
        for (int what = 0; what <= 5; what++) {
            due("new: count " + what, x.count(what), what == 3 ? 1 : 0);
        }
        due("new: all 0", x.all(0), 0);
        due("new: all 1", x.all(1), 0);
        due("new: told", x.told(0, 0), -5);
        due("new: flue", x.flue(0, 0), -5);
        due("new: needs", x.needs(0), -5);
        due("new: back", x.back(), -3);
        for (int s = 0; s < 4; s++) {
            due("new: cell", x.cell(s, 0, 0), -11);
        }
        UpTheFlue other = new UpTheFlue();
        other.bit(-1, 0, 11, 0);
        due("objects share nothing", x.count(0), 0);
    }

    private static void promise2() {
        UpTheFlue x = new UpTheFlue();
        x.bit(-1, 0, 11, 0);
        x.bit(0, 0, 11, 0);
        x.bit(0, 0, 11, 0);
        x.bit(-1, 0, 11, 0);
        due("bits", x.count(0), 4);
        due("fireplaces", x.count(1), 3);
        due("pots", x.count(2), 2);
        Check.text(x, "adds 0;heavy 0;burns 0;");
        due("texts", x.count(3), 2);
        due("law", x.count(4), 0);
        x.force(1);
        due("law forced", x.count(4), 1);
        Check.feed(x, "abc");
        due("tape", x.count(5), 3);
        for (int what : new int[] {-1, 6, Integer.MIN_VALUE, Integer.MAX_VALUE}) {
            due("count " + what, x.count(what), -2);
        }
    }

    private static void promise3() {
        UpTheFlue x = new UpTheFlue();
        due("n 0", x.feed(0, 1, 1, 1, 1, 1), -2);
        due("n 6", x.feed(6, 1, 1, 1, 1, 1), -2);
        due("n -1", x.feed(-1, 1, 1, 1, 1, 1), -2);
        for (int bad : new int[] {-1, 256, Integer.MIN_VALUE, Integer.MAX_VALUE}) {
            due("a", x.feed(1, bad, 0, 0, 0, 0), -2);
            due("b", x.feed(1, 0, bad, 0, 0, 0), -2);
            due("c", x.feed(1, 0, 0, bad, 0, 0), -2);
            due("d", x.feed(1, 0, 0, 0, bad, 0), -2);
            due("e", x.feed(1, 0, 0, 0, 0, bad), -2);
        }
        due("nothing came", x.count(5), 0);
        due("two", x.feed(2, 'a', 'd', 255, 255, 255), 2);
        due("five", x.feed(5, 'd', 's', ' ', '7', ';'), 7);
        due("one", x.feed(1, 'h', 0, 0, 0, 0), 8);
        due("three", x.feed(3, 'e', 'a', 'v', 0, 0), 11);
        due("four", x.feed(4, 'y', ' ', '8', ';', 0), 15);
        Check.feed(x, "burns 9;");
        due("in their order", x.text(), 1);
        x.force(1);
        x.bit(-1, 0, 11, 0);
        due("adds", x.asks(0, 0, 0, 0), 7);
        due("heavy", x.asks(1, 0, 0, 0), 8);
        due("burns", x.asks(2, 0, 0, 0), 9);
        for (int i = 1; i <= 31; i++) {
            due("fill", x.feed(5, 0, 0, 0, 0, 0), 5 * i);
        }
        due("158", x.feed(3, 0, 0, 0, 0, 0), 158);
        due("no room for three", x.feed(3, 0, 0, 0, 0, 0), -4);
        due("none came", x.count(5), 158);
        due("BAD ahead of FULL", x.feed(5, 0, 0, 256, 0, 0), -2);
        due("room for two", x.feed(2, 0, 0, 0, 0, 0), 160);
        due("no room", x.feed(1, 0, 0, 0, 0, 0), -4);
        due("a byte that begins no token", x.text(), -100);
    }

    private static void promise4() {
        UpTheFlue x = new UpTheFlue();
        due("first", Check.text(x, "adds 1;heavy 2;burns 3;"), 1);
        due("empty then", x.count(5), 0);
        due("without blanks at all", Check.text(x, "adds 1;heavy 2;burns 3;"), 2);
        due("with many", Check.text(x, " \n adds\n\n1 ; \nheavy 2\n;burns(3) ; \n "), 3);
        due("a fault", Check.text(x, "adds 1"), -106);
        due("empty by a fault, too", x.count(5), 0);
        due("an empty one", x.text(), -100);
        due("texts", x.count(3), 4);
        due("the law is as it was", x.count(4), 0);
        x.bit(-1, 0, 11, 0);
        due("a fault in brackets", Check.text(x, "adds 5 + ((((("), -114);
        due("the next one knows nothing of it", Check.text(x, "adds (((((7)))));heavy 8;burns 9;"), 4);
        x.force(4);
        for (int part = 0; part <= 2; part++) {
            due("says its own, part " + part, x.asks(part, 0, 0, 0), 7 + part);
        }
        due("a 0 behind it", Check.text(x, "adds 1;heavy 2;burns 3;\0"), -123);
        due("a 0 within", Check.text(x, "adds 1;\0heavy 2;burns 3;"), -107);
    }

    /** The text with the fault's place marked by ^. */
    private static void faultAt(String marked) {
        int place = marked.indexOf('^');
        String text = marked.substring(0, place) + marked.substring(place + 1);
        due("text " + marked, Check.text(new UpTheFlue(), text), -100 - place);
    }

    private static void good(String text) {
        due("text " + text, Check.text(new UpTheFlue(), text), 1);
    }

    private static void promise4Faults() {
        String[] marked = {
            "^", "   ^", "\n^", "^add", "^addss 1;", "^heavy 1;", "^1", "^;", "adds^", "adds ^", "adds 1^", "adds 1 ^",
            "^ad ds 1;", "adds ^so ot;", "adds 1 ^o r 2;",
            "adds 1;^", "adds 1 ; ^adds 1;", "adds 1 ; ^burns 1;", "adds 1;heavy 2;^", "adds 1;heavy 2;burns 3^",
            "adds 1;heavy 2;burns 3;^;", "adds 1;heavy 2;burns 3; ^adds", "adds 1;heavy 2;burns 3;^A",
            "adds ^;", "adds ^)", "adds ^+1;", "adds ^*1;", "adds ^<1;", "adds ^or 1;", "adds ^and 1;", "adds ^adds;", "adds ^Soot;",
            "adds ^oot;", "adds ^soots;", "adds ^sootz;", "adds (^foo", "adds -^foo", "adds not ^foo", "adds 1 + ^foo", "adds ^sootwide;", "adds soot ^wide;", "adds soot^5;", "adds 5^soot;", "adds 12 ^34;",
            "adds ^12345;", "adds ^00001;", "adds 1234 + ^99999;", "adds 1 ^12345;", "adds 1^(2);", "adds (1)^2;", "adds (1)^(2);",
            "adds (^)", "adds (1^;", "adds (1 + 2^;", "adds 1^);", "adds (1)^);", "adds ((1)^;", "adds (1^", "adds (^",
            "adds 1 + ^;", "adds 1 - ^;", "adds 1 * ^;", "adds 1 < ^;", "adds 1 or ^;", "adds 1 and ^;", "adds not ^;", "adds - ^;",
            "adds 1 + ^+ 2;", "adds 1 * ^* 2;", "adds 1 + ^not 2;", "adds 1 - ^not 2;", "adds 1 * ^not 2;", "adds - ^not 2;",
            "adds 1 < ^not 2;", "adds 1 = ^not 2;", "adds 1 ^not 2;", "adds 1 < 2 ^< 3;", "adds 1 = 2 ^= 3;", "adds 1 < 2 ^= 3;",
            "adds 1 < 2 + 3 * 4 ^= 3;", "adds not 1 < 2 ^< 3;", "adds (1 < 2 ^< 3)", "adds 1 ^> 2;", "adds 1 ^/ 2;", "adds ^\t1;",
            "adds 1^\r;", "adds ^\u00e9;", "adds 1 ^, 2;", "adds ^\u00ff", "adds 1 and ^or 2;", "adds 1 or ^heavy;"
        };
        for (String each : marked) {
            faultAt(each);
        }
        for (String each : new String[] {"1 + - 2", "not not 1", "1 < 2 and 2 < 3", "not 1 < 2 + 3", "(not 1) + 2", "1 < (2 < 3)",
            "9999", "0000", "- - 1", "1 - - 1", "1*-2*3", "soot*wide-bend+more<heat or wet=1", "1or 2", "1or(not 2)", "not(1)", "-(1)"}) {
            good("adds " + each + REST);
        }
    }

    private static void promise4OpenSigns() {
        good("adds (((((1)))))" + REST);
        faultAt("adds (((((^(1");
        good("adds -----1" + REST);
        faultAt("adds -----^-1");
        good("adds not not not not not 1" + REST);
        faultAt("adds not not not not not ^not 1");
        faultAt("adds not(-(-^(1");
        faultAt("adds ((((-^-1");
        faultAt("adds (not(-(^-");
        faultAt("adds (((((^not 1");
        faultAt("adds not not not not not 1 + ^-1");
        faultAt("adds not not not not not 1 < ^(2)");
        // What ended is open no more: a bracket by its end, a - by its ONE, a not by its NOT.
        good("adds (((((1))))) + (((((2)))))" + REST);
        good("adds -----1 + -----2 * -----3" + REST);
        good("adds not not not not not 1 and not not not not not 2 or -----1" + REST);
        good("adds (1) + (2) + (3) + (4) + (5) + (6) - -7" + REST);
        good("adds ((((-1 + (2)))))" + REST);
        good("adds ((((not 1 or (2)))))" + REST);
        faultAt("adds ((((not 1 + ^(2)");
        faultAt("adds (((-(1 + ^-2");
        good("adds (((((1))))); heavy (((((1))))); burns (((((1)))));");
    }

    private static void promise4Full() {
        UpTheFlue x = new UpTheFlue();
        for (int i = 1; i <= 5; i++) {
            due("text " + i, Check.text(x, "adds " + i + REST), i);
        }
        Check.feed(x, "never a text");
        due("full, ahead of the fault", x.text(), -4);
        due("the tape stays", x.count(5), 12);
        due("full once more", x.text(), -4);
        due("texts", x.count(3), 6);
        x.bit(-1, 0, 11, 0);
        for (int i = 1; i <= 5; i++) {
            x.force(i);
            due("each is kept", x.asks(0, 0, 0, 0), i);
        }
        x = new UpTheFlue();
        StringBuilder longest = new StringBuilder("adds 1");
        while (longest.length() < 160 - REST.length() - 1) {
            longest.append("+1");
        }
        longest.append(longest.length() + REST.length() < 160 ? " " : "").append(REST);
        due("160 bytes", longest.length(), 160);
        due("the longest", Check.text(x, longest.toString()), 1);
        x.force(1);
        x.bit(-1, 0, 11, 0);
        due("its sum", x.asks(0, 0, 0, 0), longest.chars().filter(c -> c == '1').count());
    }

    private static void promise5() {
        UpTheFlue x = new UpTheFlue();
        Check.text(x, "adds 7;heavy 40;burns 11;");
        Check.text(x, "adds 8;heavy 50;burns 12;");
        x.bit(-1, 0, 25, 30);
        due("none such", x.force(3), -2);
        due("below", x.force(-1), -2);
        due("far", x.force(Integer.MAX_VALUE), -2);
        due("text 0 says still", x.needs(0), 10);
        due("was 0", x.force(2), 0);
        due("text 2 says", x.needs(0), 50);
        due("was 2", x.force(2), 2);
        due("was 2 again", x.force(1), 2);
        due("text 1 says", x.needs(0), 40);
        due("was 1", x.force(0), 1);
        due("a fire by text 0", x.fire(0, 1, 0), 1);
    }

    private static void promise6() {
        UpTheFlue x = new UpTheFlue();
        x.bit(-1, 4, 28, 43);
        x.lay(0, 72);
        due("adds", x.asks(0, 0, 3, 4), 12);
        due("heavy: 20 + 72 - 0", x.asks(1, 0, 9, 9), 92);
        due("burns", x.asks(2, 0, 9, 9), 22);
        due("no bit", x.asks(0, 1, 0, 0), -5);
        due("no bit ahead of all", x.asks(3, -1, 10, 10), -5);
        for (int bad : new int[] {-1, 10, Integer.MIN_VALUE, Integer.MAX_VALUE}) {
            for (int part = 0; part <= 2; part++) {
                due("heat", x.asks(part, 0, bad, 0), -7);
                due("wet", x.asks(part, 0, 0, bad), -7);
            }
        }
        due("part 3", x.asks(3, 0, 0, 0), -7);
        due("part -1", x.asks(-1, 0, 0, 0), -7);
        Check.text(x, "adds heat*10+wet;heavy heat*10+wet+1;burns heat*10+wet+2;");
        x.force(1);
        due("heat, wet of adds", x.asks(0, 0, 3, 4), 34);
        due("of heavy, too", x.asks(1, 0, 3, 4), 35);
        due("of burns", x.asks(2, 0, 3, 4), 36);
        due("else heavy has none", x.rod(0, 1, 1), 1);
        due("soot is as it was", x.told(0, 6), 72);
    }

    private static void promise6Bounds() {
        UpTheFlue x = new UpTheFlue();
        x.bit(-1, 0, 11, 0);
        Check.text(x, "adds 100;heavy 100;burns 101;");
        Check.text(x, "adds -1;heavy -1;burns -1;");
        Check.text(x, "adds 99;heavy 99;burns 100;");
        x.force(1);
        due("adds above", x.asks(0, 0, 0, 0), 99);
        due("heavy above", x.asks(1, 0, 0, 0), 99);
        due("burns above", x.asks(2, 0, 0, 0), 100);
        x.force(2);
        for (int part = 0; part <= 2; part++) {
            due("below", x.asks(part, 0, 0, 0), 0);
        }
        x.force(3);
        due("adds at the bound", x.asks(0, 0, 0, 0), 99);
        due("heavy at the bound", x.asks(1, 0, 0, 0), 99);
        due("burns at the bound", x.asks(2, 0, 0, 0), 100);
    }

    /** What an E says of a bit with soot 35, wide 8, bent 2, more 3 (a BLOCKED: it is 5 wide), heat 4, wet 1. */
    private static void says(String e, int want) {
        UpTheFlue x = new UpTheFlue();
        x.bit(-1, 2, 18, 23);
        x.lay(0, 35);
        due("read " + e, Check.text(x, "adds 0;heavy 0;burns " + e + ";"), 1);
        x.force(1);
        due("says " + e, x.asks(2, 0, 4, 1), want);
    }

    private static void promise6Sayings() {
        says("soot", 35);
        says("wide", 5);
        says("bend", 2);
        says("more", 3);
        says("heat", 4);
        says("wet", 1);
        says("2 + 3 * 4", 14);
        says("(2 + 3) * 4", 20);
        says("20 - 5 - 3", 12);
        says("20 - (5 - 3)", 18);
        says("20 - 5 + 3", 18);
        says("2 * 3 * 4 - 1", 23);
        says("- 3 + 10", 7);
        says("- (3 - 10)", 7);
        says("- - 3", 3);
        says("10 - - 3", 13);
        says("- 3 * - 4", 12);
        says("1 < 2", 1);
        says("2 < 2", 0);
        says("3 < 2", 0);
        says("2 = 2", 1);
        says("2 = 3", 0);
        says("- 5 < 3", 1);
        says("1 + 1 = 2 * 1", 1);
        says("10 + (1 < 2)", 11);
        says("not 0", 1);
        says("not 7", 0);
        says("not not 7", 1);
        says("not 1 = 2", 1);
        says("not 1 + 4", 0);
        says("(not 1) + 4", 4);
        says("5 and 7", 1);
        says("5 and 0", 0);
        says("0 and 5", 0);
        says("5 or 0", 1);
        says("0 or - 5", 1);
        says("0 or 0", 0);
        says("5 + (0 or 0)", 5);
        says("5 + (0 and 7)", 5);
        says("5 + (2 < 1) + (2 = 1) + (not 3)", 5);
        says("1 or 0 and 0", 1);
        says("(1 or 0) and 0", 0);
        says("0 and 0 or 1", 1);
        says("not 0 and 0", 0);
        says("not 0 or 1", 1);
        says("not (0 or 1)", 0);
        says("1 < 2 and 2 < 3", 1);
        says("1 < 2 and 3 < 2", 0);
        says("7 and 7 and 7", 1);
        says("0 or 0 or 7", 1);
        says("(soot)", 35);
        // 999,700,029,999 wraps to -1,027,349,969; 2 to the 31st to the least int of all.
        says("9999 * 9999 * 9999 < 0", 1);
        says("9999 * 9999 * 9999 + 9999 * 9999 * 9 + 9999 * 9999 + 9999 * 2755 + 2756", 42);
        says("256 * 256 * 256 * 128 < 0", 1);
        says("256 * 256 * 256 * 128 - 1 = 8192 * 8192 * 16 + 8192 * 8192 * 16 - 1", 1);
        says("0 < 256 * 256 * 256 * 128 - 1", 1);
        says("256 * 256 * 256 * 256", 0);
        says("- (256 * 256 * 256 * 128) < 0", 1);
    }
}
