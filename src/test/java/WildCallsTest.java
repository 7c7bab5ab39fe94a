import java.lang.reflect.Method;
import java.util.ArrayList;
import java.util.Comparator;
import java.util.List;
import java.util.Random;

/** No call throws, whatever it is told in whatever state: runs of 512 calls with numbers near every edge. */
public final class WildCallsTest {
    private static final int[] INTS = {Integer.MIN_VALUE, Integer.MIN_VALUE + 1, -1000, -3, -2, -1, 0, 1, 2, 3, 4, 5, 6, 7, 8,
        9, 10, 11, 12, 13, 19, 20, 21, 22, 23, 24, 59, 60, 61, 254, 255, 256, 399, 400, 401, 9199, 9200, Integer.MAX_VALUE};
    private static final long[] LONGS = {Long.MIN_VALUE, Long.MIN_VALUE + 1, -(1L << 62), 1 - (1L << 62), -(1L << 40),
        1 - (1L << 40), -(1L << 31), -7, -3, -2, -1, 0, 1, 2, 3, 5, 10, 100, (1L << 31) - 1, 1L << 31, (1L << 31) + 1,
        (1L << 40) - 2, (1L << 40) - 1, 1L << 40, (1L << 62) - 1, 1L << 62, Long.MAX_VALUE};
    private static final double[] DOUBLES = {Double.NaN, Double.NEGATIVE_INFINITY, -Double.MAX_VALUE, -1.0E60, -1000000.0,
        -999999.0, -1.0, -0.5, -0.0, 0.0, Double.MIN_VALUE, 1.0E-300, 0.25, 1.0, 999999.0, 1000000.0, 1.0E60,
        Double.MAX_VALUE, Double.POSITIVE_INFINITY};
    private static final String[] TEXTS = {"focal=1", "gap 0<3;curve 1>1/2 by 2", "sum 4=0;sum 6=1", "mag=1 by -3", "number=2"};

    /** Small numbers mostly, so that many calls are taken; now and then one from an edge. */
    private static Object told(Class<?> type, Random r) {
        boolean tame = r.nextInt(8) != 0;
        if (type == int.class) {
            return tame ? r.nextInt(4) - (r.nextInt(6) == 0 ? 1 : 0) : INTS[r.nextInt(INTS.length)];
        }
        if (type == long.class) {
            return tame ? (long) r.nextInt(12) - 2 : LONGS[r.nextInt(LONGS.length)];
        }
        return tame ? r.nextDouble() : DOUBLES[r.nextInt(DOUBLES.length)];
    }

    private static void type(OpticalHouse x, String text) {
        for (int at = 0; at < text.length(); at += 20) {
            int[] n = new int[5];
            for (int i = 0; i < 20; i++) {
                n[i / 4] = n[i / 4] << 8 | (at + i < text.length() ? text.charAt(at + i) : ' ');
            }
            x.feed(n[0], n[1], n[2], n[3], n[4]);
        }
    }

    /** A fraction of any size for a MOVE on THE DISK, with the sum that it asks for. */
    private static void rewrite(OpticalHouse x, Random r) {
        int moves = x.count(1);
        if (moves == 0) {
            return;
        }
        int at = 23 * r.nextInt(moves);
        long above = LONGS[r.nextInt(LONGS.length)];
        long below = LONGS[r.nextInt(LONGS.length)];
        int sum = 0;
        for (int i = 0; i < 23; i++) {
            int want = x.disk(at + i);
            if (i >= 5 && i < 21) {
                want = (int) ((i < 13 ? above : below) >>> 56 - 8 * ((i - 5) % 8) & 255);
            } else if (i >= 21) {
                want = i == 21 ? sum / 256 : sum % 256;
            } else if (r.nextInt(12) == 0) {
                want = r.nextInt(4) == 0 ? 255 : r.nextInt(11);
            }
            x.alter(at + i, x.disk(at + i) ^ want);
            sum = i < 21 ? (31 * sum + want) % 65536 : sum;
        }
        x.open();
        x.view(0, r.nextInt(4), r.nextInt(3));
    }

    public static void main(String[] args) throws Exception {
        List<Method> calls = new ArrayList<>();
        for (Method m : OpticalHouse.class.getDeclaredMethods()) {
            if (java.lang.reflect.Modifier.isPublic(m.getModifiers())) {
                calls.add(m);
            }
        }
        calls.sort(Comparator.comparing(Method::getName));
        int runs = args.length > 0 ? Integer.parseInt(args[0]) : 1500;
        int wrong = 0;
        for (int run = 0; run < runs; run++) {
            Random r = new Random(run);
            OpticalHouse x = new OpticalHouse();
            x.lens(1 + r.nextInt(10));
            x.view(0, 0, 0);
            for (int i = 0; i < 400; i++) {
                Method call = calls.get(r.nextInt(calls.size()));
                Class<?>[] types = call.getParameterTypes();
                Object[] told = new Object[types.length];
                for (int t = 0; t < types.length; t++) {
                    told[t] = told(types[t], r);
                }
                try {
                    if (r.nextInt(100) == 0) {
                        type(x, TEXTS[r.nextInt(TEXTS.length)]);
                        x.merit(r.nextInt(4));
                    }
                    if (r.nextInt(150) == 0) {
                        rewrite(x, r);
                    }
                    // an open() or crash() now and then only, or no LENS would grow
                    if (!call.getName().equals("open") && !call.getName().equals("crash") || r.nextInt(10) == 0) {
                        call.invoke(x, told);
                    }
                } catch (java.lang.reflect.InvocationTargetException thrown) {
                    wrong++;
                    System.out.println("run " + run + ": " + call.getName() + java.util.Arrays.toString(told) + " threw "
                            + thrown.getCause());
                }
            }
        }
        System.out.println(runs + " wild runs, " + wrong + " calls threw");
        System.exit(wrong > 0 ? 1 : 0);
    }
}
