import java.lang.reflect.Method;
import java.util.Random;

/** The class's own square root, which the document calls Math.sqrt, bit for bit. */
public final class RootTest {
    public static void main(String[] args) throws Exception {
        Method root = Class.forName("OpticalHouse$Flight").getDeclaredMethod("root", double.class);
        root.setAccessible(true);
        double[] edges = {0.0, -0.0, 1.0, 2.0, 3.0, 4.0, 0.25, Double.MIN_VALUE, Double.MIN_NORMAL, Double.MAX_VALUE,
            Double.POSITIVE_INFINITY, Math.nextDown(1.0), Math.nextUp(1.0), Math.nextDown(4.0), Math.nextUp(4.0),
            Math.scalb(1.0, 64), Math.nextDown(Math.scalb(1.0, 64)), Math.scalb(1.0, -64), Math.nextDown(Math.scalb(1.0, -64)),
            Math.scalb(1.0, 1023), Math.nextDown(Math.scalb(1.0, -1022)), 1.0E296, 1.0E-300};
        int wrong = 0;
        for (double x : edges) {
            wrong += check(root, x);
        }
        Random r = new Random(7);
        for (int i = 0; i < 400000; i++) {
            long bits = r.nextLong() & Long.MAX_VALUE;
            double any = Double.longBitsToDouble(bits);
            if (any == any) {
                wrong += check(root, any);
            }
            double near = r.nextDouble() * 5.0;
            wrong += check(root, near);
            // next to squares, where the rounding is closest
            double square = (1.0 + r.nextDouble()) * (1.0 + r.nextDouble());
            wrong += check(root, Math.nextUp(square * square));
            wrong += check(root, Math.nextDown(square * square));
            wrong += check(root, Double.longBitsToDouble(bits >>> 11 + r.nextInt(52)));
        }
        System.out.println(wrong == 0 ? "all roots are as Math.sqrt tells them" : wrong + " roots are wrong");
        System.exit(wrong > 0 ? 1 : 0);
    }
    private static int check(Method root, double x) throws Exception {
        double got = (Double) root.invoke(null, x);
        if (Double.doubleToRawLongBits(got) == Double.doubleToRawLongBits(Math.sqrt(x))) {
            return 0;
        }
        System.out.println("the root of " + x + " is told as " + got + ", due is " + Math.sqrt(x));
        return 1;
    }
}
