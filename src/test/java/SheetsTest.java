/** Promises 31 to 35: sheets. What a sheet holds is seen by the BASES that it gives. */
public final class SheetsTest {
    private static final int MIN = Integer.MIN_VALUE;
    private static final int MAX = Integer.MAX_VALUE;

    public static void main(String[] args) {
        sheet();
        put();
        move();
        moveRefused();
        bases();
        judge();
        Due.end("SheetsTest");
    }

    private static GlassEyes eightEyes() {
        GlassEyes x = new GlassEyes();
        for (int e = 0; e < 8; e++) {
            x.eye(30, 9);
        }
        return x;
    }

    private static void holds(GlassEyes x, int sheet, int... want) {
        Due.due("bases(" + sheet + ")", x.bases(sheet), want.length);
        for (int e = 0; e < want.length; e++) {
            Due.due("number " + e + " of " + sheet, x.ofEye(e, 2), want[e]);
        }
    }

    private static void fill(GlassEyes x, int sheet, int bits, int... numbers) {
        x.sheet(sheet, bits, numbers.length);
        for (int i = 0; i < numbers.length; i++) {
            x.put(sheet, i, numbers[i]);
        }
    }

    private static void sheet() {
        GlassEyes x = eightEyes();
        int[] bits = {8, 16, 32};
        for (int b : bits) {
            Due.due("sheet(3, " + b + ", 40)", x.sheet(3, b, 40), 1);
            Due.due("put(3, 39, 1)", x.put(3, 39, 1), 1);
            Due.due("put(3, 40, 1)", x.put(3, 40, 1), Due.BEYOND);
            Due.due("sheet(3, " + b + ", 0)", x.sheet(3, b, 0), 1);
            Due.due("put(3, 0, 1)", x.put(3, 0, 1), Due.BEYOND);
        }
        fill(x, 0, 8, 5, 6, 7);
        x.sheet(0, 8, 3);
        holds(x, 0, 0, 0, 0);
        fill(x, 0, 8, 5, 6, 7);
        x.sheet(0, 16, 1);
        x.sheet(0, 16, 3);
        holds(x, 0, 0, 0, 0);
        Due.due("sheet(0, 0, -5)", x.sheet(0, 0, -5), 1);
        Due.due("put(0, 0, 0), missing", x.put(0, 0, 0), Due.NONE);
        Due.due("sheet(0, 0, 41)", x.sheet(0, 0, 41), 1);
        Due.due("sheet(0, 0, MIN)", x.sheet(0, 0, MIN), 1);
        fill(x, 1, 8, 1, 2);
        int[][] beyond = {{-1, 8, 1}, {4, 8, 1}, {0, 7, 1}, {0, -8, 1}, {0, 64, 1}, {0, 1, 1}, {0, 8, 41}, {0, 32, MAX},
            {4, 8, -1}, {4, 0, 0}, {1, 9, -1}, {1, MAX, 1}, {MIN, 8, 1}, {MAX, 0, 1}};
        for (int[] w : beyond) {
            Due.refused(x, "sheet(" + w[0] + ", " + w[1] + ", " + w[2] + ")", Due.BEYOND, () -> x.sheet(w[0], w[1], w[2]));
        }
        int[] below = {-1, MIN};
        for (int n : below) {
            Due.refused(x, "sheet(1, 8, " + n + ")", Due.STATE, () -> x.sheet(1, 8, n));
        }
        holds(x, 1, 1, 2);
    }

    private static void put() {
        GlassEyes x = eightEyes();
        Due.refused(x, "put(0, 0, 0), missing", Due.NONE, () -> x.put(0, 0, 0));
        Due.refused(x, "put(0, 99, 0), missing", Due.NONE, () -> x.put(0, 99, 0));
        fill(x, 0, 8, 256 + 4, -256 + 9, 512, MIN + 3);
        holds(x, 0, 4, 9, 0, 3);
        fill(x, 1, 16, 65536 + 4, -65536 + 9, MIN + 3, 256);
        holds(x, 1, 4, 9, 3);
        fill(x, 2, 32, 4, 65536);
        holds(x, 2, 4);
        fill(x, 2, 32, 9, MIN + 3);
        holds(x, 2, 9);
        Due.due("put(0, 0, 5)", x.put(0, 0, 5), 1);
        int[][] wrong = {{-1, 0}, {4, 0}, {0, -1}, {0, 4}, {MIN, 0}, {MAX, 0}, {0, MIN}, {0, MAX}};
        for (int[] w : wrong) {
            Due.refused(x, "put(" + w[0] + ", " + w[1] + ", 1)", Due.BEYOND, () -> x.put(w[0], w[1], 1));
        }
        holds(x, 0, 5, 9, 0, 3);
    }

    private static void move() {
        GlassEyes x = eightEyes();
        fill(x, 0, 16, 1, 2, 3, 4, 5);
        fill(x, 1, 16, 9, 9, 9);
        Due.due("move(0, 1, 1, 0, 2)", x.move(0, 1, 1, 0, 2), 2);
        holds(x, 1, 2, 3, 9);
        holds(x, 0, 1, 2, 3, 4, 5);
        Due.due("move(0, 0, 0, 1, 4), over itself", x.move(0, 0, 0, 1, 4), 4);
        holds(x, 0, 1, 1, 2, 3, 4);
        Due.due("move(0, 2, 0, 0, 3), over itself", x.move(0, 2, 0, 0, 3), 3);
        holds(x, 0, 2, 3, 4, 3, 4);
        Due.due("move(1, 0, 0, 2, 3), whole", x.move(1, 0, 0, 2, 3), 3);
        holds(x, 0, 2, 3, 2, 3, 9);
        Due.due("move(0, 5, 1, 3, 0), none at the end", x.move(0, 5, 1, 3, 0), 0);
        Due.due("move(0, 0, 1, 0, 0)", x.move(0, 0, 1, 0, 0), 0);
        holds(x, 1, 2, 3, 9);
    }

    private static void moveRefused() {
        GlassEyes x = eightEyes();
        fill(x, 0, 8, 1, 2, 3);
        fill(x, 1, 8, 4, 5);
        fill(x, 2, 16, 6, 7);
        int[][] wrong = { // sheet, i, other, j, n, which ERROR
            {-1, 0, 0, 0, 1, Due.BEYOND}, {0, 0, 4, 0, 1, Due.BEYOND}, {4, 0, 3, 0, 1, Due.BEYOND}, {3, 0, -1, 0, 1, Due.BEYOND},
            {3, 0, 0, 0, 1, Due.NONE}, {0, 0, 3, 0, 1, Due.NONE}, {3, -1, 3, -1, -1, Due.NONE}, {2, 0, 3, 0, 1, Due.NONE},
            {0, 0, 2, 0, 1, Due.KIND}, {2, -1, 0, -1, -1, Due.KIND},
            {0, 0, 1, 0, -1, Due.BEYOND}, {0, -1, 1, 0, 1, Due.BEYOND}, {0, 0, 1, -1, 1, Due.BEYOND},
            {0, 3, 1, 0, 1, Due.BEYOND}, {0, 0, 1, 2, 1, Due.BEYOND}, {0, 0, 1, 0, 3, Due.BEYOND}, {1, 0, 0, 0, 3, Due.BEYOND},
            {0, MAX, 1, 0, 1, Due.BEYOND}, {0, 0, 1, MAX, 1, Due.BEYOND}, {0, 1, 1, 1, MAX, Due.BEYOND}, {0, MIN, 1, MIN, MIN, Due.BEYOND},
            {0, 4, 1, 0, 0, Due.BEYOND}, {0, 0, 1, 3, 0, Due.BEYOND}, {0, MAX, 1, MAX, MAX, Due.BEYOND}};
        for (int[] w : wrong) {
            String call = "move(" + w[0] + ", " + w[1] + ", " + w[2] + ", " + w[3] + ", " + w[4] + ")";
            Due.refused(x, call, w[5], () -> x.move(w[0], w[1], w[2], w[3], w[4]));
        }
        holds(x, 0, 1, 2, 3);
        holds(x, 1, 4, 5);
        holds(x, 2, 6, 7);
    }

    private static void bases() {
        GlassEyes x = new GlassEyes();
        for (int e = 0; e < 3; e++) {
            x.eye(30, 9);
        }
        fill(x, 0, 8, 1, 2, 3, 4, 5);
        Due.due("bases(0), as many as there are EYES", x.bases(0), 3);
        Due.due("BASE of 2", x.ofEye(2, 2), 3);
        fill(x, 0, 8, 7);
        Due.due("bases(0), one", x.bases(0), 1);
        Due.due("BASE of 0", x.ofEye(0, 2), 7);
        Due.due("BASE of 1", x.ofEye(1, 2), 2);
        fill(x, 0, 32, 0, 10, 5);
        Due.due("bases(0), up to 10", x.bases(0), 1);
        Due.due("BASE of 0", x.ofEye(0, 2), 0);
        Due.due("BASE of 1", x.ofEye(1, 2), 2);
        Due.due("BASE of 2", x.ofEye(2, 2), 3);
        fill(x, 0, 32, 9, 8, -1);
        Due.due("bases(0), up to -1", x.bases(0), 2);
        fill(x, 0, 32, -1, 8, 8);
        Due.due("bases(0), none", x.bases(0), 0);
        x.sheet(0, 8, 0);
        Due.due("bases(0), empty", x.bases(0), 0);
        Due.due("no ERROR so far", x.told(1) + x.told(2), 0);
        Due.refused(x, "bases(1), missing", Due.NONE, () -> x.bases(1));
        int[] wrong = {-1, 4, MIN, MAX};
        for (int s : wrong) {
            Due.refused(x, "bases(" + s + ")", Due.BEYOND, () -> x.bases(s));
            Due.refused(x, "judge(" + s + ")", Due.BEYOND, () -> x.judge(s));
        }
        Due.refused(x, "judge(1), missing", Due.NONE, () -> x.judge(1));
    }

    private static void judge() {
        GlassEyes x = new GlassEyes();
        x.sheet(0, 8, 0);
        Due.due("judge of none by none", x.judge(0), -1);
        x.sheet(0, 8, 1);
        Due.due("judge of one by none", x.judge(0), 0);
        x.eye(0, 4);
        x.eye(60, 4);
        x.eye(20, 4);
        fill(x, 0, 8, 4, 4, 5);
        Due.due("judge(0), all", x.judge(0), -1);
        x.hours(1);
        Due.due("judge(0), an HOUR on", x.judge(0), 0);
        fill(x, 0, 8, 5, 5, 5);
        Due.due("judge(0), the last", x.judge(0), 2);
        fill(x, 0, 8, 5, 4, 4);
        Due.due("judge(0), amid", x.judge(0), 1);
        fill(x, 0, 8, 5, 5, 4);
        Due.due("judge(0), all", x.judge(0), -1);
        fill(x, 0, 16, 5, 5);
        Due.due("judge(0), one lacks", x.judge(0), 2);
        fill(x, 0, 32, 5, 5, 4, 0);
        Due.due("judge(0), one too many", x.judge(0), 3);
        fill(x, 0, 32, 5, 6, 4, 0);
        Due.due("judge(0), the first that isn't so", x.judge(0), 1);
        fill(x, 0, 32, 261, 5, 4);
        Due.due("judge(0), all its bits", x.judge(0), 0);
        x.sheet(0, 8, 0);
        Due.due("judge(0), all lack", x.judge(0), 0);
    }
}
