import java.lang.reflect.Method;
import java.util.Arrays;
import java.util.Comparator;
import java.util.Random;

/** Runs of calls by chance (with a told seed), each answer held against the model's: of every promise, of wrong numbers too. */
public final class RandomRunsTest {
    private static final int RUNS = 1500;
    private static final int CALLS = 512;
    /** A text is fed by 32 calls, read and forced by two. */
    private static final int MOST_AT_ONCE = 34;
    private static final int[] EXTREMES = {Integer.MIN_VALUE, Integer.MAX_VALUE, -1, -2, 255, 256, 1 << 16, -100};

    private final Random chance = new Random(20261118);
    private final Check check = new Check("RandomRunsTest");
    private UpTheFlue x;
    private Model model;
    private String trace = "";

    public static void main(String[] args) throws Exception {
        RandomRunsTest test = new RandomRunsTest();
        Method[] methods = Arrays.stream(UpTheFlue.class.getDeclaredMethods())
                .filter(m -> java.lang.reflect.Modifier.isPublic(m.getModifiers()))
                .sorted(Comparator.comparing(Method::getName)).toArray(Method[]::new);
        test.check.due("methods of the face", methods.length, 39);
        for (int run = 0; run < RUNS; run++) {
            test.run(methods, run);
        }
        test.check.end();
    }

    private void run(Method[] methods, int run) throws Exception {
        x = new UpTheFlue();
        model = new Model();
        trace = "";
        int calls = 0;
        while (calls + MOST_AT_ONCE <= CALLS) {
            double kind = chance.nextDouble();
            if (kind < 0.04) {
                calls += feedText();
            } else if (kind < 0.06) {
                calls += filmOf();
            } else if (kind < 0.08) {
                calls += bitsOf();
            } else if (kind < 0.16) {
                call(method(methods, "bit"), chance.nextInt(model.bits.size() + 1) - 1, below(6), 10 + below(60), below(50));
                calls++;
            } else {
                Method m = methods[chance.nextInt(methods.length)];
                if ((m.getName().equals("back") || m.getName().equals("text")) && chance.nextInt(4) != 0) {
                    continue;
                }
                call(m, numbersFor(m.getName(), m.getParameterCount()));
                calls++;
            }
        }
    }

    private int below(int n) {
        return chance.nextInt(n);
    }

    private static Method method(Method[] methods, String name) {
        return Arrays.stream(methods).filter(m -> m.getName().equals(name)).findFirst().get();
    }

    private void call(Method m, int... numbers) throws Exception {
        Object[] boxed = Arrays.stream(numbers).boxed().toArray();
        String call = m.getName() + Arrays.toString(numbers);
        trace += call + " ";
        long got;
        try {
            got = ((Number) m.invoke(x, boxed)).longValue();
        } catch (java.lang.reflect.InvocationTargetException e) {
            check.isTrue(trace + " threw " + e.getCause(), false);
            check.end();
            return;
        }
        Method same = Model.class.getDeclaredMethod(m.getName(), m.getParameterTypes());
        long want = ((Number) same.invoke(model, boxed)).longValue();
        if (got != want) {
            check.due("behind " + trace, got, want);
            check.end();
        }
        check.due(call, got, want);
    }

    /** What each number of a call may be; two numbers a range. */
    static int[] ranges(String name) {
        switch (name) {
            case "count": return new int[] {0, 5};
            case "feed": return new int[] {1, 5, 0, 255, 0, 255, 0, 255, 0, 255, 0, 255};
            case "force": return new int[] {0, 5};
            case "asks": return new int[] {0, 2, 0, 9, 0, 9, 0, 9};
            case "bit": return new int[] {-1, 9, 0, 5, 10, 69, 0, 49};
            case "mend": return new int[] {0, 9, 0, 5, 0, 9};
            case "lay": return new int[] {0, 9, 0, 99};
            case "told": return new int[] {0, 9, 0, 8};
            case "all": return new int[] {0, 1};
            case "flue": return new int[] {0, 9, 0, 3};
            case "join": return new int[] {0, 9, 0, 9};
            case "rod": return new int[] {0, 9, 1, 60, 0, 1};
            case "push": return new int[] {0, 9, 0, 99, 0, 1};
            case "sweep": return new int[] {0, 9, 0, 99};
            case "needs": return new int[] {0, 9};
            case "fire": return new int[] {0, 9, 1, 20, 0, 99};
            case "smoke": return new int[] {0, 9, 0, 9, 0, 1};
            case "draw": return new int[] {0, 9, 0, 99};
            case "smokes": return new int[] {0, 99};
            case "fine": return new int[] {0, 9, 0, 40, 0, 99};
            case "when": return new int[] {0, 9, 0, 99, 0, 99};
            case "often": return new int[] {0, 9, 0, 99, 0, 99, 0, 99};
            case "round": return new int[] {0, 99, 0, 99, 0, 1};
            case "ball": return new int[] {0, 9, 0, 9, 0, 2};
            case "judge": return new int[] {0, 3, 0, 9};
            case "whose": return new int[] {0, 3};
            case "laws": return new int[] {0, 3, 0, 9};
            case "blocked": return new int[] {0, 3, 0, 9, 0, 1};
            case "film": return new int[] {0, 3, 0, 9, 0, 40};
            case "drawn": return new int[] {0, 99999, 0, 9, 0, 40, 0, 99};
            case "odds": return new int[] {0, 99999, 0, 9, 0, 40, 0, 99, 0, 1};
            case "sheet": return new int[] {0, 3, -1, 2, 0, 40};
            case "cell": return new int[] {0, 3, 0, 39, -1, 70};
            case "copy": return new int[] {0, 3, 0, 39, 0, 3, 0, 39, 0, 10};
            case "bitsBy": return new int[] {0, 3, 0, 2, 0, 39, 0, 10};
            case "taken": return new int[] {0, 19, 0, 6};
            default: return new int[0];
        }
    }

    private int[] numbersFor(String name, int many) {
        int[] ranges = ranges(name);
        int[] numbers = new int[many];
        for (int i = 0; i < many; i++) {
            int low = ranges[2 * i];
            int high = ranges[2 * i + 1];
            int how = below(40);
            if (how == 0) {
                numbers[i] = EXTREMES[below(EXTREMES.length)];
            } else if (how < 3) {
                numbers[i] = how == 1 ? low - 1 : high + 1;
            } else if (how < 6) {
                numbers[i] = how == 3 ? low : high;
            } else if (high == 9 && how < 30) {
                numbers[i] = below(Math.max(1, model.bits.size()));
            } else {
                numbers[i] = low + below(high - low + 1);
            }
        }
        return numbers;
    }

    // ---- calls that belong together

    private int feedText() throws Exception {
        String text = Texts.some(chance);
        Method feed = UpTheFlue.class.getMethod("feed", int.class, int.class, int.class, int.class, int.class, int.class);
        int calls = 0;
        for (int at = 0; at < text.length(); at += 5) {
            int n = Math.min(5, text.length() - at);
            int[] numbers = new int[6];
            numbers[0] = n;
            for (int i = 0; i < n; i++) {
                numbers[i + 1] = text.charAt(at + i);
            }
            call(feed, numbers);
            calls++;
        }
        call(UpTheFlue.class.getMethod("text"));
        call(UpTheFlue.class.getMethod("force", int.class), below(6));
        return calls + 2;
    }

    /** A film of a flue, perhaps with one other number, and the questions that it answers. */
    private int filmOf() throws Exception {
        int f = below(Math.max(1, model.bits.size()));
        int s = below(4);
        call(UpTheFlue.class.getMethod("film", int.class, int.class, int.class), s, f, below(41));
        if (below(3) == 0) {
            call(UpTheFlue.class.getMethod("mend", int.class, int.class, int.class), below(10), 2, below(10));
        }
        call(UpTheFlue.class.getMethod("judge", int.class, int.class), s, f);
        call(UpTheFlue.class.getMethod("whose", int.class), s);
        call(UpTheFlue.class.getMethod("laws", int.class, int.class), s, f);
        call(UpTheFlue.class.getMethod("blocked", int.class, int.class, int.class), s, f, 0);
        call(UpTheFlue.class.getMethod("blocked", int.class, int.class, int.class), s, f, 1);
        return 7;
    }

    private int bitsOf() throws Exception {
        int s = below(4);
        int sort = below(3);
        Method cell = UpTheFlue.class.getMethod("cell", int.class, int.class, int.class);
        call(UpTheFlue.class.getMethod("sheet", int.class, int.class, int.class), s, sort, 14);
        int at = below(3);
        for (int i = at; i < 14; i += 4) {
            call(cell, s, i, below(4) - 1);
            call(cell, s, i + 1, below(7));
            call(cell, s, i + 2, 8 + below(63));
            call(cell, s, i + 3, below(52));
        }
        call(UpTheFlue.class.getMethod("bitsBy", int.class, int.class, int.class, int.class), s, sort, at, below(5));
        return 18;
    }
}
