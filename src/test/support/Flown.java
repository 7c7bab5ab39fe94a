/** A RAY as section 5 tells it, in the plainest words, with the reason where it ends; MIRRORS have an index of 0. */
final class Flown {
    double[] c, k, t, h, index;
    double b = 1.0, o = 0.0, d = 0.0, e = 0.0, field = 0.0, v = 0.0;

    /** Where it ended: PASSES, or the check that it did not pass with the SURFACE's number. */
    String why = "";
    int answer = 0;
    double[][] marks;

    private double x, y, z, l, m, n, path, way;

    Flown(int surfaces) {
        c = new double[surfaces];
        k = new double[surfaces];
        t = new double[surfaces];
        h = new double[surfaces];
        index = new double[surfaces + 1];
        java.util.Arrays.fill(index, 1.0);
    }

    private static boolean near(double a) {
        return a > -1.0E60 && a < 1.0E60;
    }

    Flown fly(double px, double py, double fx, double fy) {
        int last = c.length - 1;
        marks = new double[last + 2][7];
        x = px * b + fx * d;
        y = py * b + fy * d;
        l = o == 0.0 ? fx * e : (x - fx * field) / o;
        m = o == 0.0 ? fy * e : (y - fy * field) / o;
        double r = Math.sqrt(1.0 + l * l + m * m);
        l = l / r;
        m = m / r;
        n = 1.0 / r;
        z = 0.0;
        path = 0.0;
        double i = index[0];
        for (int s = 0; s <= last; s++) {
            boolean mirror = index[s + 1] == 0.0;
            double behind = mirror ? i : index[s + 1];
            String end = surface(s, i, behind, mirror);
            if (!end.isEmpty()) {
                why = end + " at " + s;
                answer = 1 + 3 * s + (end.equals("BLOCKED") ? 1 : end.equals("TOTAL") ? 2 : 0);
                return this;
            }
            i = behind;
            z = z - (s == last ? v : t[s]);
        }
        String end = glide();
        if (!end.isEmpty()) {
            why = end + " at the plane";
            answer = 1 + 3 * (last + 1);
            return this;
        }
        path = path + i * way;
        z = 0.0;
        mark(last + 1, true);
        why = "PASSES";
        answer = 0;
        return this;
    }

    private String glide() {
        if (!near(l) || !near(m) || !near(n)) {
            return "l, m, n";
        }
        if (n == 0.0) {
            return "n is 0.0";
        }
        way = -z / n;
        if (!near(way)) {
            return "T";
        }
        x = x + way * l;
        y = y + way * m;
        return !near(x) ? "x" : !near(y) ? "y" : "";
    }

    private String surface(int s, double ahead, double behind, boolean mirror) {
        String end = glide();
        if (!end.isEmpty()) {
            return end;
        }
        double p = n - c[s] * (x * l + y * m);
        double q = c[s] * (x * x + y * y);
        double r = p * p - c[s] * (1.0 + k[s] * n * n) * q;
        if (!(r >= 0)) {
            return "R";
        }
        double root = n < 0 ? -Math.sqrt(r) : Math.sqrt(r);
        if (p + root == 0.0) {
            return "P + S";
        }
        double far = q / (p + root);
        if (!near(far)) {
            return "D";
        }
        x = x + far * l;
        y = y + far * m;
        z = far * n;
        path = path + ahead * (way + far);
        double a = 0.0 - c[s] * x;
        double bb = 0.0 - c[s] * y;
        double w = 1.0 - (1.0 + k[s]) * c[s] * z;
        double length = Math.sqrt(a * a + bb * bb + w * w);
        if (length == 0.0) {
            return "E";
        }
        mark(s, false);
        if (h[s] != 0.0 && x * x + y * y > h[s] * h[s]) {
            return "BLOCKED";
        }
        a = a / length;
        bb = bb / length;
        w = w / length;
        double j = l * a + m * bb + n * w;
        double g = -2.0 * j;
        double ratio = 1.0;
        if (!mirror) {
            ratio = ahead / behind;
            double kk = 1.0 - ratio * ratio * (1.0 - j * j);
            if (!(kk >= 0)) {
                return "TOTAL";
            }
            g = (j < 0 ? -Math.sqrt(kk) : Math.sqrt(kk)) - ratio * j;
        }
        l = ratio * l + g * a;
        m = ratio * m + g * bb;
        n = ratio * n + g * w;
        mark(s, true);
        return "";
    }

    private void mark(int s, boolean goesOn) {
        marks[s] = new double[] {x, y, z, goesOn ? l : 0.0, goesOn ? m : 0.0, goesOn ? n : 0.0, path};
    }
}
