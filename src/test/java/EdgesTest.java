/** Edges that the document names, promises 1 to 26: the least, the most, none, all, a wrap, a cut; refusals: see RefusedTest. */
public final class EdgesTest {
    private static final Check CHECK = new Check("EdgesTest");
    private static final String REST = ";heavy 0;burns 0;";

    private EdgesTest() {
    }

    public static void main(String[] args) {
        terms512Calls();
        promise3ToTheBrim();
        promise4AtTheEnd();
        promise4EachByte();
        promise4EachByteBehind();
        promise4Longest();
        promise4OpenAnywhere();
        promise6OneByOne();
        promise8AllStays();
        promise10Kinds();
        promise12Widest();
        promise14ByOneRod();
        promise15Bounds();
        promise16Halves();
        promise17Bounds();
        heavyWithoutFire();
        promise18Most();
        promise19AllLeaks();
        promise20Ends();
        promise22Ends();
        promise23Ends();
        promise24Greatest();
        promise25Orders();
        promise26Sizes();
        CHECK.end();
    }

    private static void due(String call, long got, long want) {
        CHECK.due(call, got, want);
    }

    private static void terms512Calls() {
        UpTheFlue x = new UpTheFlue();
        x.bit(-1, 0, 19, 0);
        for (int call = 2; call <= 511; call++) {
            due("call " + call, x.lay(0, call % 100), call == 2 ? 0 : (call - 1) % 100);
        }
        due("call 512", x.told(0, 6), 11);
        x = new UpTheFlue();
        for (int call = 1; call <= 512; call++) {
            due("an image each time, call " + call, x.image(), 0);
        }
    }

    private static void promise3ToTheBrim() {
        UpTheFlue x = new UpTheFlue();
        for (int i = 1; i <= 32; i++) {
            due("five more", x.feed(5, 255, 0, 10, 32, 255), 5 * i);
        }
        for (int n = 1; n <= 5; n++) {
            due("full for " + n, x.feed(n, 0, 0, 0, 0, 0), -4);
        }
        due("160", x.count(5), 160);
        for (int room = 0; room <= 5; room++) {
            for (int n = 1; n <= 5; n++) {
                UpTheFlue y = new UpTheFlue();
                Check.feed(y, " ".repeat(160 - room));
                due(n + " where there is room for " + room, y.feed(n, 32, 32, 32, 32, 32), n <= room ? 160 - room + n : -4);
                due("then there are", y.count(5), n <= room ? 160 - room + n : 160 - room);
            }
        }
    }

    private static void fault(String text, int place) {
        UpTheFlue x = new UpTheFlue();
        due("text " + text, Check.text(x, text), -100 - place);
        due("the tape is empty behind it", x.count(5), 0);
        due("no text came by it", x.count(3), 1);
    }

    private static void good(String text) {
        UpTheFlue x = new UpTheFlue();
        due("text " + text, Check.text(x, text), 1);
        due("the tape is empty behind it", x.count(5), 0);
        due("a text came by it", x.count(3), 2);
    }

    /** It ends too early: the size of the text, blanks too; up to a tape of 160. */
    private static void promise4AtTheEnd() {
        String whole = "adds 1 ; heavy ( 2 ) ; burns not - 3 ; ";
        for (int size = 0; size < whole.length() - 2; size++) {
            char last = size == 0 ? ' ' : whole.charAt(size - 1);
            boolean inWord = size > 0 && Character.isLetter(last) && Character.isLetter(whole.charAt(size));
            if (!inWord) {
                fault(whole.substring(0, size), size);
                fault(whole.substring(0, size) + "  \n", size + 3);
            }
        }
        good(whole.substring(0, whole.length() - 1));
        good(whole);
        fault("adds 1" + " ".repeat(154), 160);
        fault(" ".repeat(160), 160);
        fault("\n".repeat(160), 160);
        fault("adds " + "1+".repeat(77) + "1", 160);
        fault("adds 1;heavy 2;burns 3;" + " ".repeat(136) + "x", 159);
        good("adds 1;heavy 2;burns 3;" + " ".repeat(137));
        good(" ".repeat(137) + "adds 1;heavy 2;burns 3;");
    }

    /** Each byte ahead of a ONE. */
    private static void promise4EachByte() {
        for (int b = 0; b < 256; b++) {
            String text = "adds " + (char) b + "1" + REST;
            boolean stands = b == ' ' || b == '\n' || b == '-' || b >= '0' && b <= '9';
            if (stands) {
                good(text);
            } else {
                fault(text, b == '(' ? 7 : 5);
            }
        }
    }

    /** Each byte behind a whole text, and behind a ONE. */
    private static void promise4EachByteBehind() {
        for (int b = 0; b < 256; b++) {
            String text = "adds 1" + REST + (char) b;
            if (b == ' ' || b == '\n') {
                good(text);
            } else {
                fault(text, text.length() - 1);
            }
            text = "adds wet" + (char) b;
            if (b >= 'a' && b <= 'z') {
                fault(text, 5);
            } else if (b == ' ' || b == '\n' || b == ';' || b == '+' || b == '-' || b == '*' || b == '<' || b == '=') {
                fault(text, 9);
            } else {
                fault(text, 8);
            }
        }
    }

    /** Tokens as long as can be; numbers of more than four digits, though they be worth less. */
    private static void promise4Longest() {
        fault("a".repeat(160), 0);
        fault("adds " + "soot".repeat(38), 5);
        fault("adds " + "1".repeat(155), 5);
        fault("adds " + "0".repeat(155), 5);
        fault("adds 4294967297" + REST, 5);
        fault("adds 18446744073709551617" + REST, 5);
        for (int digits = 1; digits <= 9; digits++) {
            if (digits <= 4) {
                good("adds " + "0".repeat(digits) + REST);
            } else {
                fault("adds " + "0".repeat(digits) + REST, 5);
            }
        }
        good("adds1;heavy2;burns3;");
        fault("adds1heavy2;burns3;", 5);
        fault("addsoot" + REST, 0);
        fault("adds soot" + "heavy 0;burns 0;", 5);
        good("adds(soot)" + REST);
        good("adds-soot" + REST);
        good("adds 0007" + REST);
        fault("adds\t7" + REST, 4);
    }

    /** Five may be open at once in each E; behind the ends of these five more may be. */
    private static void promise4OpenAnywhere() {
        String[] openers = {"(", "-", "not "};
        for (String key : new String[] {"adds ", "adds 1;heavy ", "adds 1;heavy 2;burns "}) {
            for (String opener : openers) {
                fault(key + opener.repeat(5), key.length() + 5 * opener.length());
                fault(key + opener.repeat(6), key.length() + 5 * opener.length());
                fault(key + opener.repeat(7) + "1", key.length() + 5 * opener.length());
            }
            String five = "(((((1)))))+-----1*(((((2)))))<(((((-3+4";
            fault(key + five.substring(0, 36), key.length() + 36);
            fault(key + five, key.length() + 36);
        }
        good("adds not not not not not 1 = 2;heavy -----1 - -----2;burns (((((1)))));");
        good("adds not ((-(1)) < 2) and not ((-(1)) < 2)" + REST);
        fault("adds not ((-(-1)))", 13);
        good("adds ----(1) + ----(1) * ----(1)" + REST);
        fault("adds ----(1 + -1)", 14);
        good("adds -(1) + -(-(-1)) + -(-(-1));heavy -(-(-1));burns -(-(-1));");
        fault("adds -(-(-(1)))", 10);
    }

    /** What is said is cut to the bound by one, too. */
    private static void promise6OneByOne() {
        int[][] adds = {{-1, 0}, {0, 0}, {1, 1}, {98, 98}, {99, 99}, {100, 99}, {101, 99}};
        for (int[] each : adds) {
            UpTheFlue x = Check.under("adds " + each[0] + ";heavy " + each[0] + ";burns " + each[0] + ";");
            x.bit(-1, 0, 19, 0);
            due("adds " + each[0], x.asks(0, 0, 9, 9), each[1]);
            due("heavy " + each[0], x.asks(1, 0, 9, 9), each[1]);
            due("burns " + each[0], x.asks(2, 0, 9, 9), Math.max(0, Math.min(100, each[0])));
        }
        UpTheFlue x = Check.under("adds 8192*8192*32;heavy 8192*8192*32-1;burns 8192*8192*64+7;");
        x.bit(-1, 0, 19, 0);
        due("the least int", x.asks(0, 0, 0, 0), 0);
        due("the greatest, by a wrap", x.asks(1, 0, 0, 0), 99);
        due("7, by a wrap", x.asks(2, 0, 0, 0), 7);
        x = Check.under("adds -(8192*8192*32)=8192*8192*32;heavy 5 or wet;burns heat and 5;");
        x.bit(-1, 0, 19, 0);
        due("- of the least int is it", x.asks(0, 0, 0, 0), 1);
        due("or is 1", x.asks(1, 0, 0, 0), 1);
        due("and is 0", x.asks(2, 0, 0, 0), 0);
        due("and is 1", x.asks(2, 0, 9, 0), 1);
    }

    private static void promise8AllStays() {
        for (int was = 0; was < 6; was++) {
            for (int kind = 0; kind < 6; kind++) {
                UpTheFlue x = new UpTheFlue();
                x.bit(-1, 0, 11, 0);
                x.bit(0, was, 69, 49);
                x.lay(1, 99);
                due("was", x.mend(1, kind, 0), was);
                int[] told = {kind, 0, 6, 9, 4, 0, 99, kind == 4 ? 0 : 9, 0};
                for (int what = 0; what < told.length; what++) {
                    due("told " + what, x.told(1, what), told[what]);
                }
                due("to itself", x.mend(1, kind, 9), kind);
                due("MORE", x.told(1, 5), 9);
            }
        }
    }

    /** Each kind with the least and the most of WIDE, MORE, SOOT: GROWS, IS, LEAKS. */
    private static void promise10Kinds() {
        for (int kind = 0; kind < 6; kind++) {
            for (int wide = 0; wide <= 9; wide++) {
                for (int more = 0; more <= 9; more++) {
                    UpTheFlue x = new UpTheFlue();
                    x.bit(-1, kind, 10 + wide, more);
                    for (int soot : new int[] {0, 9, 10, 19, 20, 89, 90, 99}) {
                        x.lay(0, soot);
                        int less = kind == 2 ? more : kind == 4 ? more + soot / 10 : 0;
                        due("IS, kind " + kind, x.told(0, 7), Math.max(0, wide - less));
                        due("LEAKS, kind " + kind, x.told(0, 8), kind == 5 ? 10 * more : 0);
                    }
                    x.lay(0, 0);
                    // 1 + 7 + 2 * 9 = 26.
                    int grows = kind == 1 || kind == 3 ? 26 + more : kind == 5 ? 13 : 26;
                    due("GROWS, kind " + kind, x.fire(0, 1, 79), grows);
                }
            }
        }
    }

    private static void promise12Widest() {
        UpTheFlue x = new UpTheFlue();
        Check.flueOf(x, 10, 0, 69, 0);
        due("all ten", x.flue(9, 1), 1023);
        due("60 rods", x.flue(9, 3), 60);
        due("the pot alone", x.flue(0, 1), 1);
        due("6 rods", x.flue(0, 3), 6);
        due("the one fireplace", x.flue(0, 2), 512);
        due("it joins all", x.join(9, 0), 0);
        due("and itself", x.join(9, 9), 9);
        due("one above the other", x.join(5, 8), 5);
        x = new UpTheFlue();
        x.bit(-1, 0, 19, 0);
        for (int b = 1; b < 10; b++) {
            x.bit(0, 0, 19, 0);
        }
        due("nine fireplaces", x.flue(0, 2), 1022);
        due("one each", x.flue(9, 2), 512);
        due("all", x.all(0), 1022);
        due("one pot", x.all(1), 1);
        x = new UpTheFlue();
        for (int b = 0; b < 10; b++) {
            x.bit(-1, 0, 19, 0);
        }
        due("ten fireplaces", x.all(0), 1023);
        due("ten pots", x.all(1), 1023);
        due("nothing joins", x.join(0, 9), -1);
        due("a fireplace that ends in a pot", x.flue(4, 2), 16);
    }

    /** Bits of one rod each: every rod another one. */
    private static void promise14ByOneRod() {
        UpTheFlue x = new UpTheFlue();
        Check.flueOf(x, 10, 0, 10, 0);
        for (int b = 0; b < 10; b++) {
            x.lay(b, 9 * b);
        }
        for (int rods = 1; rods <= 10; rods++) {
            due("rod " + rods, x.rod(9, rods, 0), 10 - rods);
            due("heavy " + rods, x.rod(9, rods, 1), 9 * (10 - rods));
        }
        due("through", x.rod(9, 11, 0), -1);
        due("through, not heavy 0", x.rod(9, 11, 1), -1);
    }

    private static void promise15Bounds() {
        UpTheFlue x = Check.under("adds 0;heavy 9999;burns 0;");
        Check.flueOf(x, 3, 0, 21, 0);
        due("99 is not above 99", x.push(2, 99, 0), -1);
        due("through all", x.push(2, 99, 1), 6);
        due("99 is above 98", x.push(2, 98, 0), 2);
        due("none ahead", x.push(2, 98, 1), 0);
        x = Check.under("adds 0;heavy -1;burns 0;");
        Check.flueOf(x, 3, 0, 20, 0);
        due("0 wide, whatever the force", x.push(2, 99, 0), 2);
        x = Check.under("adds 0;heavy -1;burns 0;");
        Check.flueOf(x, 3, 0, 21, 0);
        due("0 is not above 0", x.push(2, 0, 0), -1);
        x.mend(1, 2, 1);
        due("the first that is 0 wide", x.push(2, 99, 0), 1);
        due("rods ahead", x.push(2, 99, 1), 2);
        x.mend(2, 4, 0);
        x.lay(2, 10);
        due("0 wide by its soot", x.push(2, 99, 0), 2);
        x.lay(2, 9);
        due("not by less", x.push(2, 99, 0), 1);
    }

    private static void promise16Halves() {
        UpTheFlue x = Check.under("adds 0" + REST);
        Check.flueOf(x, 1, 3, 19, 9);
        int[][] halves = {{0, 0}, {1, 0}, {2, 1}, {3, 1}, {98, 49}, {99, 49}};
        for (int[] each : halves) {
            x.lay(0, each[0]);
            due("went of " + each[0], x.sweep(0, 0), each[0] - each[1]);
            due("left of " + each[0], x.told(0, 6), each[1]);
        }
        x.mend(0, 4, 0);
        x.lay(0, 89);
        due("all is left of a LOST", x.sweep(0, 99), 0);
        due("89", x.told(0, 6), 89);
        UpTheFlue y = Check.under("adds 0" + REST);
        Check.flueOf(y, 10, 0, 19, 0);
        for (int b = 0; b < 10; b++) {
            y.lay(b, 99);
        }
        due("990 went", y.sweep(9, 0), 990);
    }

    private static void promise17Bounds() {
        UpTheFlue x = Check.under("adds 0;heavy soot * 2;burns 0;");
        Check.flueOf(x, 3, 0, 11, 0);
        due("0 is the least", x.needs(2), 0);
        x.lay(1, 49);
        due("98", x.needs(2), 98);
        x.lay(0, 50);
        due("99 is the greatest", x.needs(2), 99);
        x.mend(0, 2, 1);
        due("the last is 0 wide", x.needs(2), -1);
        x.mend(0, 0, 0);
        x.mend(2, 2, 1);
        due("the first is 0 wide", x.needs(2), -1);
    }

    /** Of heavy heat and wet are 0, wherever a fire is told, too. */
    private static void heavyWithoutFire() {
        UpTheFlue x = Check.under("adds 5;heavy 40 + heat * 10 + wet;burns 0;");
        x.bit(-1, 0, 19, 0);
        due("rod", x.rod(0, 1, 1), 40);
        due("push", x.push(0, 40, 0), -1);
        due("push: heat and wet are not below 0, either", x.push(0, 39, 0), 0);
        due("needs", x.needs(0), 40);
        due("often", x.often(0, 99, 40, 5), 1);
        x.bit(-1, 0, 19, 0);
        x.lay(0, 20);
        x.lay(1, 30);
        due("round", x.round(99, 40, 0), 10);
        due("most soot", x.round(99, 40, 1), 35);
        due("film", x.film(0, 0, 1), 1);
        due("whose", x.whose(0), 3);
        due("blocked", x.blocked(0, 0, 1), 9);
        due("laws: by text 0 it is 20 - 9", x.laws(0, 0), 2);
        x.sheet(1, 2, 1);
        x.cell(1, 0, 40);
        due("judge", x.judge(1, 0), -1);
        due("sweep", x.sweep(0, 40), 20);
    }

    private static void promise18Most() {
        UpTheFlue x = Check.under("adds 33" + REST);
        Check.flueOf(x, 10, 0, 19, 0);
        due("33 each", x.fire(9, 1, 0), 330);
        due("99 each", x.fire(9, 2, 0), 990);
        due("not one more", x.fire(9, 20, 99), 990);
        x = Check.under("adds 1" + REST);
        Check.flueOf(x, 1, 0, 19, 0);
        x.lay(0, 78);
        due("twenty", x.fire(0, 20, 0), 98);
        due("one", x.fire(0, 1, 0), 99);
        due("99 at most", x.fire(0, 1, 0), 99);
        x = Check.under("adds 0 - 5" + REST);
        Check.flueOf(x, 1, 0, 19, 0);
        x.lay(0, 7);
        due("never less", x.fire(0, 20, 0), 7);
        x.mend(0, 1, 9);
        due("a SOOTY grows MORE all the same", x.fire(0, 1, 0), 16);
        x = Check.under("adds 9999" + REST);
        Check.flueOf(x, 1, 5, 19, 9);
        due("half of 99", x.fire(0, 1, 0), 49);
        due("half once more", x.fire(0, 1, 0), 98);
        due("99 at most", x.fire(0, 1, 0), 99);
    }

    private static void promise19AllLeaks() {
        UpTheFlue x = new UpTheFlue();
        Check.flueOf(x, 10, 5, 19, 9);
        int[] out = {0, 0, 0, 0, 0, 0, 0, 9 * 1, 90, 900};
        // 1000: 900, 100 left: 90, 10 left: 9, 1 left: .9 is cut, 1 stays left.
        for (int b = 0; b < 10; b++) {
            due("out of " + b, x.smoke(9, b, 0), out[b]);
            due("left, asked by " + b, x.smoke(9, b, 1), 1);
        }
        x = new UpTheFlue();
        Check.flueOf(x, 10, 5, 19, 0);
        due("none leaks", x.smoke(9, 9, 0), 0);
        due("all is left", x.smoke(9, 9, 1), 1000);
        x.bit(-1, 5, 19, 9);
        due("there is no eleventh", x.smoke(9, 10, 0), -5);
    }

    private static void promise20Ends() {
        UpTheFlue x = new UpTheFlue();
        Check.flueOf(x, 10, 0, 69, 0);
        due("300 at most", x.draw(9, 0), 300);
        due("wind 99", x.draw(9, 99), 201);
        x = new UpTheFlue();
        Check.flueOf(x, 10, 0, 10, 40);
        due("ten times 5 - 8 - 9", x.draw(9, 0), -120);
        due("wind 99", x.draw(9, 99), -219);
        due("below 0 by no wind", x.smokes(0), 512);
        x = new UpTheFlue();
        for (int b = 0; b < 10; b++) {
            x.bit(-1, 0, 14 + b % 6, 0);
        }
        // 0 .. 5, then 0 .. 3.
        due("none below 0", x.smokes(0), 0);
        due("below 0 by 1", x.smokes(1), 1 + 64);
        due("below 0 by 5", x.smokes(5), 1023 - 32);
        due("all by 6", x.smokes(6), 1023);
    }

    private static void promise22Ends() {
        UpTheFlue x = Check.under("adds 0;heavy 0;burns 99;");
        Check.flueOf(x, 1, 0, 19, 0);
        long want = 1000000000L;
        for (int many = 0; many <= 40; many++) {
            due("hundredths, fires " + many, x.fine(0, many, 0), want);
            want /= 100;
        }
        x = Check.under("adds 0;heavy 0;burns 1;");
        Check.flueOf(x, 10, 0, 19, 0);
        want = 1000000000L;
        for (int i = 0; i < 400; i++) {
            want = want * 99 / 100;
        }
        due("400 times cut", x.fine(9, 40, 99), want);
        // Soot of both grows ahead of both being asked: .5, .5, not 1.
        x = Check.under("adds 50;heavy 0;burns soot;");
        Check.flueOf(x, 2, 0, 19, 0);
        due("behind soot has grown", x.fine(1, 1, 0), 250000000L);
        due("then it is sure but for a hundredth: .25 * .01 * .01", x.fine(1, 2, 0), 25000L);
    }

    private static void promise23Ends() {
        UpTheFlue x = Check.under("adds 1;heavy 0;burns not soot < 41;");
        Check.flueOf(x, 1, 0, 19, 0);
        due("by the 41st: none", x.when(0, 0, 0), -1);
        x.lay(0, 1);
        due("by the 40th", x.when(0, 0, 0), 40);
        x = Check.under("adds 0;heavy 0;burns soot;");
        Check.flueOf(x, 8, 0, 19, 0);
        int[] soot = {12, 26, 16, 6, 3, 2, 26, 6};
        for (int b = 0; b < soot.length; b++) {
            x.lay(7 - b, soot[b]);
        }
        due("3 below .34", x.fine(7, 1, 0), 339999997L);
        due("is below it", x.when(7, 0, 66), 1);
        due("not below .33 by 1", x.when(7, 0, 67), 2);
        x = Check.under("adds 0;heavy 0;burns 99;");
        Check.flueOf(x, 1, 0, 19, 0);
        due(".01 is not below .01", x.when(0, 0, 99), 2);
        due(".01 is below .02", x.when(0, 0, 98), 1);
        x = Check.under("adds 0;heavy 0;burns 100;");
        Check.flueOf(x, 1, 0, 19, 0);
        due("0 is below all", x.when(0, 99, 99), 1);
    }

    /** Not all below the greatest n need do. */
    private static void promise24Greatest() {
        UpTheFlue x = Check.under("adds 2;heavy (soot = 4) * 99;burns 0;");
        Check.flueOf(x, 1, 0, 19, 0);
        // Behind each two fires there are 4, 8: too heavy, then swept; behind each three 6.
        due("3, though 2 does not do", x.often(0, 0, 98, 6), 3);
        due("line 5", x.often(0, 0, 98, 5), 1);
        due("with a force that does: 4, then 6", x.often(0, 0, 99, 5), 2);
        x = Check.under("adds soot = 0;heavy 0;burns 0;");
        Check.flueOf(x, 1, 0, 19, 0);
        due("all of them do", x.often(0, 0, 0, 1), 24);
        due("none does", x.often(0, 0, 0, 0), -1);
        x = Check.under("adds 99" + REST);
        Check.flueOf(x, 1, 0, 19, 0);
        due("99 is not more than 99", x.often(0, 0, 0, 99), 24);
        due("99 is more than 98", x.often(0, 0, 0, 98), -1);
        x = Check.under("adds 4" + REST);
        Check.flueOf(x, 2, 0, 19, 0);
        x.lay(0, 3);
        due("the pot's: 3 + 4 * 23 = 95, 99", x.often(1, 0, 0, 98), 23);
        due("by 24", x.often(1, 0, 0, 99), 24);
    }

    /** Every order of four may be the best, as it may of three, two and one. */
    private static void promise25Orders() {
        for (int many = 1; many <= 4; many++) {
            int codes = (int) Math.pow(many, many);
            for (int code = 0; code < codes; code++) {
                int[] order = new int[many];
                int rest = code;
                int seen = 0;
                for (int i = many - 1; i >= 0; i--) {
                    order[i] = rest % many;
                    rest /= many;
                    seen |= 1 << order[i];
                }
                if (seen == (1 << many) - 1) {
                    bestIs(order);
                }
            }
        }
    }

    /** Ten more by each fire: what has most is swept first, so that all end at or below 10 * (many and 4). */
    private static void bestIs(int[] order) {
        UpTheFlue x = Check.under("adds 10" + REST);
        for (int b = 0; b < order.length; b++) {
            x.bit(-1, 0, 19, 0);
        }
        int digits = 0;
        for (int i = 0; i < order.length; i++) {
            x.lay(order[i], 10 * (order.length - 1 - i));
            digits = 10 * digits + order[i];
        }
        due("order " + digits, x.round(0, 0, 0), digits);
        due("most soot", x.round(0, 0, 1), 10 * order.length);
    }

    private static void promise26Sizes() {
        UpTheFlue x = new UpTheFlue();
        for (int b = 0; b < 10; b++) {
            x.bit(b - 1, 0, 19 - b, 0);
        }
        // 9 wide at the pot, each next one 1 less, 0 at the fireplace.
        for (int size = 0; size <= 9; size++) {
            due("stays, size " + size, x.ball(0, size, 0), size == 0 ? -1 : 10 - size);
            due("falls out, size " + size, x.ball(0, size, 1), size == 0 ? 9 : -1);
            due("rods, size " + size, x.ball(0, size, 2), size == 0 ? 10 : 10 - size);
        }
        x = new UpTheFlue();
        x.bit(-1, 0, 68, 0);
        due("stays in the pot's", x.ball(0, 9, 0), 0);
        due("none went through", x.ball(0, 9, 2), 0);
        due("falls out of the pot's", x.ball(0, 8, 1), 0);
        due("through it", x.ball(0, 8, 2), 6);
        x.bit(0, 0, 11, 0);
        x.bit(0, 0, 19, 0);
        due("by the first of two, not the wider", x.ball(0, 5, 0), 1);
    }
}
