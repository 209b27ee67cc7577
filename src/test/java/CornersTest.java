import java.lang.reflect.Method;
import java.util.ArrayList;
import java.util.Arrays;
import java.util.Comparator;
import java.util.List;

/**
 * Every call with each of its numbers at the ends of what is told, one above, one below and far off, all with all, held
 * against the model: in a house without bits, in one of six, in a full one.
 */
public final class CornersTest {
    private static final Check CHECK = new Check("CornersTest");
    private static final int CALLS = 400;

    private CornersTest() {
    }

    public static void main(String[] args) {
        List<List<String>> houses = List.of(Watch.fresh(), Watch.rich(), Watch.full());
        Method[] methods = Arrays.stream(UpTheFlue.class.getDeclaredMethods())
                .filter(m -> java.lang.reflect.Modifier.isPublic(m.getModifiers()))
                .sorted(Comparator.comparing(Method::getName)).toArray(Method[]::new);
        for (List<String> house : houses) {
            for (Method m : methods) {
                corners(house, m.getName(), m.getParameterCount());
            }
        }
        CHECK.end();
    }

    private static void corners(List<String> house, String name, int many) {
        int[][] ends = new int[many][];
        long all = 1;
        for (int i = 0; i < many; i++) {
            int[] ranges = RandomRunsTest.ranges(name);
            ends[i] = endsOf(ranges[2 * i], ranges[2 * i + 1], many);
            all *= ends[i].length;
        }
        UpTheFlue x = null;
        Model model = null;
        for (long code = 0; code < all; code++) {
            if (code % CALLS == 0) {
                x = Watch.made(house);
                model = new Model();
                Script.all(model, house);
            }
            int[] numbers = new int[many];
            long rest = code;
            for (int i = 0; i < many; i++) {
                numbers[i] = ends[i][(int) (rest % ends[i].length)];
                rest /= ends[i].length;
            }
            CHECK.due(name + Arrays.toString(numbers), Script.call(x, name, numbers), Script.call(model, name, numbers));
        }
    }

    /** Fewer of each where there are many numbers; of bits and fireplaces all. */
    private static int[] endsOf(int low, int high, int many) {
        List<Integer> ends = new ArrayList<>(List.of(low - 1, low, high, high + 1));
        if (many <= 5) {
            ends.addAll(List.of(low + 1, Integer.MIN_VALUE, Integer.MAX_VALUE));
        }
        if (high <= 9 && many <= 4) {
            for (int v = low + 2; v < high; v++) {
                ends.add(v);
            }
        } else if (many <= 5) {
            ends.add(5);
        }
        return ends.stream().distinct().mapToInt(Integer::intValue).toArray();
    }
}
