import java.lang.reflect.InvocationTargetException;
import java.lang.reflect.Method;
import java.lang.reflect.Modifier;
import java.util.Arrays;
import java.util.Comparator;
import java.util.Map;
import java.util.Random;

/** Calls with any numbers, in any order: none throws, and each answer is one that its promise can give. */
public final class AnyCallTest {
    private static final long GREATEST_SCORE = 60000L * 60000L * 600L;
    /** Beyond the 512th call answers are free, but even there nothing may be thrown. */
    private static final int CALLS = 300;
    private static final int CALLS_BEYOND = 400;

    /** Numbers at which the document draws a line, and those far off. */
    private static final int[] EDGES = {0, 1, 2, 3, 4, 5, 6, 7, 8, 10, 11, 12, 20, 23, 24, 30, 39, 40, 50, 51, 99, 100, 149, 150, 199,
        200, 201, 299, 300, 301, 399, 400, 599, 600, 999, 1000, 9999, 20000, 30000, 30001, 99999, 100000, 200000, 999999,
        1000000000, 2147483646, 2147483647, -2147483647, -2147483648};

    /** Pairs of a least and a greatest answer. */
    private static final Map<String, long[]> ANSWERS = Map.ofEntries(
        Map.entry("star", new long[] {-1, 11}),
        Map.entry("row", new long[] {-200000, -200000, -100000, -100000, -30000, 30000}),
        Map.entry("resize", new long[] {-1, -1, 1, 999}),
        Map.entry("wide", new long[] {-1, 50}),
        Map.entry("mask", new long[] {0, 1}),
        Map.entry("order", new long[] {-1, 23}),
        Map.entry("at", new long[] {-200000, -200000, -100000, -100000, -30000, 30000}),
        Map.entry("world", new long[] {-1, 39}),
        Map.entry("feed", new long[] {-1, -1, 20, 400}),
        Map.entry("end", new long[] {-1, 400}),
        Map.entry("text", new long[] {-2 - (1 + 8 * 400 + 4), -3, -1, 5}),
        Map.entry("make", new long[] {-1, -1, 1, 600}),
        Map.entry("tried", new long[] {-200000, -200000, -100000, -100000, -60000, GREATEST_SCORE}),
        Map.entry("found", new long[] {-2, GREATEST_SCORE}),
        Map.entry("spread", new long[] {-1, -1, 1, 900000000}),
        Map.entry("catches", new long[] {-1, 1}),
        Map.entry("share", new long[] {-1, 40}),
        Map.entry("chance", new long[] {-1, 12}),
        Map.entry("line", new long[] {-1, 20 * 99999}),
        Map.entry("sign", new long[] {-200000, -200000, -120000, 120000}),
        Map.entry("shift", new long[] {-200, -200, -100, -100, -3, 3}),
        Map.entry("weight", new long[] {-1, 99999}),
        Map.entry("sorted", new long[] {-2, 4}),
        Map.entry("odds", new long[] {-1, 5 * 99999}),
        Map.entry("truly", new long[] {-2, 12 * 40 * 1000000L}),
        Map.entry("bound", new long[] {-2, -1, 1, 3000}),
        Map.entry("second", new long[] {-2, GREATEST_SCORE}),
        Map.entry("next", new long[] {-2, 99999 + 200}),
        Map.entry("alias", new long[] {-2, GREATEST_SCORE}),
        Map.entry("radius", new long[] {-2, 773}),
        Map.entry("many", new long[] {-1, 12}),
        Map.entry("finest", new long[] {-1, 5}),
        Map.entry("room", new long[] {-1, -1, 1, 599 + 98 * 599 + 1}),
        Map.entry("other", new long[] {-3, 301}),
        Map.entry("fold", new long[] {-1000000000, -1000000000, -9000000, 9000000}),
        Map.entry("candidate", new long[] {-1, 11}),
        Map.entry("nights", new long[] {-1, 12 * 9999}),
        Map.entry("count", new long[] {-1, 12 * 600}),
        Map.entry("image", new long[] {-1, 12}),
        Map.entry("back", new long[] {-1, 12}));

    private final Random draw;
    private final String name;
    private final DimStars x;
    private final int near;

    private AnyCallTest(long seed) {
        draw = new Random(seed);
        name = "seed " + seed + ": ";
        int kind = draw.nextInt(3);
        x = kind == 0 ? new DimStars() : kind == 1 ? House.small() : House.full();
        near = 1 + draw.nextInt(12);
    }

    public static void main(String[] args) {
        int runs = args.length > 0 ? Integer.parseInt(args[0]) : 150;
        int from = args.length > 1 ? Integer.parseInt(args[1]) : 0;
        Method[] calls = Arrays.stream(DimStars.class.getDeclaredMethods())
            .filter(m -> Modifier.isPublic(m.getModifiers()))
            .sorted(Comparator.comparing(Method::getName))
            .toArray(Method[]::new);
        Check.due("calls with answers", calls.length, ANSWERS.size());
        for (int seed = from; seed < from + runs; seed++) {
            new AnyCallTest(seed).run(calls);
        }
        Check.end();
    }

    private void run(Method[] calls) {
        int all = draw.nextInt(20) == 0 ? CALLS + CALLS_BEYOND : CALLS;
        for (int i = 0; i < all; i++) {
            Method call = calls[draw.nextInt(calls.length)];
            // going back too often would leave little to ask about
            if (!call.getName().equals("back") || draw.nextInt(4) == 0) {
                ask(call, i < CALLS);
            }
        }
    }

    private void ask(Method call, boolean isPromised) {
        Class<?>[] kinds = call.getParameterTypes();
        Object[] told = new Object[kinds.length];
        for (int i = 0; i < kinds.length; i++) {
            told[i] = kinds[i] == boolean.class ? (Object) draw.nextBoolean() : (Object) number();
        }
        String asked = name + call.getName() + Arrays.toString(told);
        try {
            Object answer = call.invoke(x, told);
            long n = answer instanceof Boolean ? (Boolean) answer ? 1 : 0 : ((Number) answer).longValue();
            Check.due(asked + " answers " + n, !isPromised || isOne(n, ANSWERS.get(call.getName())), true);
        } catch (IllegalAccessException | InvocationTargetException e) {
            Check.due(asked + " throws " + e.getCause(), true, false);
        }
    }

    private int number() {
        int kind = draw.nextInt(20);
        if (kind == 0) {
            return draw.nextInt();
        }
        if (kind < 4) {
            int edge = EDGES[draw.nextInt(EDGES.length)];
            return draw.nextInt(4) == 0 ? -edge : edge;
        }
        return kind == 4 ? -1 : kind < 7 ? draw.nextInt(700) : draw.nextInt(near + 1);
    }

    private static boolean isOne(long n, long[] pairs) {
        for (int i = 0; i + 1 < pairs.length; i += 2) {
            if (n >= pairs[i] && n <= pairs[i + 1]) {
                return true;
            }
        }
        return false;
    }
}
