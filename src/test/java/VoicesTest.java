/** Promises 29 and 30: voices, the trace. */
public final class VoicesTest {
    public static void main(String[] args) {
        voices();
        anyNumber();
        wrongs();
        Due.end("VoicesTest");
    }

    private static void said(GlassEyes x, int eye, int act, int in, int want, int... trace) {
        String call = "kind " + x.ofEye(eye, 0) + ": voice(" + eye + ", " + act + ", " + in + ")";
        Due.due(call, x.voice(eye, act, in), want);
        Due.due(call + ": count(8)", x.count(8), trace.length);
        for (int i = 0; i < trace.length; i++) {
            Due.due(call + ": trace(" + i + ")", x.trace(i), trace[i]);
        }
        Due.due(call + ": trace at its end", x.trace(trace.length), Due.NONE);
    }

    /** EYE n is of KIND n, m is 3, x is 10; by hand from the bodies. */
    private static void voices() {
        GlassEyes x = new GlassEyes();
        for (int kind = 0; kind < 7; kind++) {
            x.eye(10 * kind + 3, 0);
        }
        said(x, 0, 0, 10, 10, 10);
        said(x, 0, 1, 10, 20, 11, 10);
        said(x, 0, 2, 10, 7, 12);
        said(x, 0, 3, 10, 20 ^ 7, 13, 11, 10, 12);
        said(x, 1, 0, 10, 33, 20, 10);
        said(x, 1, 1, 10, 66, 11, 20, 10);
        said(x, 1, 2, 10, 7, 12);
        said(x, 1, 3, 10, 66 ^ 7, 13, 11, 20, 10, 12);
        said(x, 2, 0, 10, 12, 10);
        said(x, 2, 1, 10, 24 + 2, 30, 11, 10, 12);
        said(x, 2, 2, 10, 7, 12);
        said(x, 2, 3, 10, 26 ^ 7, 13, 30, 11, 10, 12, 12);
        said(x, 3, 0, 10, 13, 10);
        said(x, 3, 1, 10, 26, 11, 10);
        said(x, 3, 2, 10, -7, 40, 12);
        said(x, 3, 3, 10, 26 ^ -7, 13, 11, 10, 40, 12);
        said(x, 4, 0, 10, 42, 20, 10);
        said(x, 4, 1, 10, 84, 11, 20, 10);
        said(x, 4, 2, 10, 7, 12);
        said(x, 4, 3, 10, (84 ^ 7) - 18, 50, 13, 11, 20, 10, 12, 20, 10);
        said(x, 5, 0, 10, 15, 10);
        said(x, 5, 1, 10, 32 + 2, 60, 30, 11, 10, 12);
        said(x, 5, 2, 10, 7, 12);
        said(x, 5, 3, 10, 34 ^ 7, 13, 60, 30, 11, 10, 12, 12);
        said(x, 6, 0, 10, 16, 10);
        said(x, 6, 1, 10, 32, 11, 10);
        said(x, 6, 2, 10, -7 ^ 6, 70, 40, 12);
        said(x, 6, 3, 10, 32 - (32 ^ (-7 ^ 6)), 71, 11, 10, 13, 11, 10, 70, 40, 12);
    }

    private static void anyNumber() {
        GlassEyes y = new GlassEyes();
        for (int e = 0; e < 8; e++) {
            y.eye(60, 0);
        }
        said(y, 7, 2, -5, 5 ^ 7, 70, 40, 12);
        said(y, 5, 2, 1, -1 ^ 5, 70, 40, 12);
        GlassEyes x = new GlassEyes();
        x.eye(9, 0);
        x.eye(19, 0);
        said(x, 0, 2, -1000000000, -1000000009, 12);
        said(x, 0, 2, Integer.MIN_VALUE, Integer.MAX_VALUE - 8, 12);
        said(x, 1, 0, Integer.MAX_VALUE, Integer.MIN_VALUE * 3, 20, 10);
        said(x, 1, 1, 1 << 30, ((1 << 30) + 1) * 6, 11, 20, 10);
        Due.due("an answer like an ERROR is none", x.told(1), 0);
    }

    private static void wrongs() {
        GlassEyes x = new GlassEyes();
        int[] nowhere = {-1, 0, 40, Integer.MIN_VALUE, Integer.MAX_VALUE};
        for (int i : nowhere) {
            Due.refused(x, "trace(" + i + "), none yet", Due.NONE, () -> x.trace(i));
        }
        Due.refused(x, "voice(0, 0, 0) without EYES", Due.BEYOND, () -> x.voice(0, 0, 0));
        x.eye(3, 0);
        x.voice(0, 3, 4);
        int[][] wrong = {{-1, 0}, {1, 0}, {0, -1}, {0, 4}, {Integer.MIN_VALUE, 0}, {0, Integer.MAX_VALUE}};
        for (int[] w : wrong) {
            Due.refused(x, "voice(" + w[0] + ", " + w[1] + ", 0)", Due.BEYOND, () -> x.voice(w[0], w[1], 0));
        }
        int[] beside = {-1, 4, 40, Integer.MIN_VALUE, Integer.MAX_VALUE};
        for (int i : beside) {
            Due.refused(x, "trace(" + i + ")", Due.NONE, () -> x.trace(i));
        }
        Due.due("THE TRACE stays", x.trace(3), 12);
    }
}
