/** Promises 15, 16 and 28: hours, hours by draws, the seed. */
public final class HoursTest {
    public static void main(String[] args) {
        anHour();
        whatIsBorne();
        wornIsHeld();
        wrongHours();
        theLastHour();
        draws();
        drawsWithoutEyes();
        outByDraws();
        seed();
        Due.end("HoursTest");
    }

    private static GlassEyes harbours(int... bases) {
        GlassEyes x = new GlassEyes();
        for (int base : bases) {
            x.eye(30, base);
        }
        return x;
    }

    private static void anHour() {
        GlassEyes x = harbours(4, 5, 6);
        for (int w = 0; w < 3; w++) {
            x.wearer();
        }
        x.wear(0, 0, 0);
        x.wear(0, 1, 1);
        x.wear(1, 1, 2);
        Due.due("hours(1)", x.hours(1), 0);
        Due.due("HOUR", x.count(2), 1);
        Due.due("SEEN of 0, by the LEFT one", x.ofWearer(0, 3), 16);
        Due.due("BEARS of 0", x.ofWearer(0, 2), 16);
        Due.due("SEEN of 1", x.ofWearer(1, 3), 64);
        Due.due("BEARS of 1", x.ofWearer(1, 2), 14);
        Due.due("BEARS of 2, with nothing", x.ofWearer(2, 2), 21);
        Due.due("SEEN of 2", x.ofWearer(2, 3), 0);
        for (int e = 0; e < 3; e++) {
            Due.due("WORN of " + e, x.ofEye(e, 3), 1);
        }
        Due.due("hours(1)", x.hours(1), 0);
        Due.due("SEEN of 0, by the RIGHT one then", x.ofWearer(0, 3), 48);
        Due.due("BEARS of 0", x.ofWearer(0, 2), 11);
        Due.due("BEARS of 1", x.ofWearer(1, 2), 8);
        Due.due("hours(2): 1 takes one out in the second", x.hours(2), 1);
        Due.due("BEARS of 1", x.ofWearer(1, 2), 20);
        Due.due("RIGHT of 1", x.ofWearer(1, 1), -1);
        Due.due("who wears 2", x.ofEye(2, 4), -1);
        Due.due("WORN of 2", x.ofEye(2, 3), 4);
        Due.due("BEARS of 0", x.ofWearer(0, 2), 2);
        Due.due("hours(1)", x.hours(1), 1);
        Due.due("0 has the RIGHT one yet", x.ofWearer(0, 1), 1);
        Due.due("LEFT of 0", x.ofWearer(0, 0), -1);
        Due.due("WORN of 0", x.ofEye(0, 3), 5);
        Due.due("BEARS of 1", x.ofWearer(1, 2), 21);
        Due.due("hours(4)", x.hours(4), 1);
        Due.due("count(5)", x.count(5), 0);
    }

    private static void whatIsBorne() {
        GlassEyes x = harbours(0);
        x.wearer();
        x.wear(0, 0, 0);
        Due.due("no dread", x.hours(60), 0);
        Due.due("BEARS", x.ofWearer(0, 2), 20);
        x.set(0, 0, 0);
        Due.due("BEARS is 0, though it is no less", x.hours(1), 1);
        Due.due("BEARS", x.ofWearer(0, 2), 20);
        Due.due("LEFT", x.ofWearer(0, 0), -1);
        x.wear(0, 0, 0);
        x.dread(0, 9);
        x.become(0, 20);
        x.change(0, 0, 9);
        x.set(0, 0, 18);
        int hour = x.count(2);
        Due.read(x, 0, "9");
        Due.due("GENERAL counts twice: 18 less", x.hours(1), 1);
        Due.due("HOUR", x.count(2), hour + 1);
        x.wear(0, 1, 0);
        x.set(0, 0, 19);
        Due.due("18 less of 19", x.hours(1), 0);
        Due.due("BEARS", x.ofWearer(0, 2), 1);
        Due.due("0 at least", x.hours(1), 1);
        Due.due("RIGHT", x.ofWearer(0, 1), -1);
        x.set(0, 0, 98);
        x.hours(1);
        Due.due("BEARS", x.ofWearer(0, 2), 99);
        x.hours(1);
        Due.due("99 at most", x.ofWearer(0, 2), 99);
        x.become(0, 40);
        x.wear(0, 0, 0);
        x.hours(9);
        Due.due("ALLEY counts not at all", x.ofWearer(0, 2), 99);
    }

    private static void wornIsHeld() {
        GlassEyes x = harbours(0, 0);
        x.wearer();
        x.wear(0, 0, 0);
        x.wear(0, 1, 1);
        x.change(0, 1, 9998);
        x.hours(1);
        Due.due("WORN", x.ofEye(0, 3), 9999);
        x.hours(1);
        Due.due("WORN is held", x.ofEye(0, 3), 9999);
        Due.due("WORN of the other", x.ofEye(1, 3), 2);
    }

    private static void wrongHours() {
        GlassEyes x = harbours(3);
        x.wearer();
        x.wear(0, 0, 0);
        int[] wrong = {0, -1, 61, Integer.MIN_VALUE, Integer.MAX_VALUE};
        for (int n : wrong) {
            Due.refused(x, "hours(" + n + ")", Due.BEYOND, () -> x.hours(n));
            Due.refused(x, "loose(" + n + ")", Due.BEYOND, () -> x.loose(n));
        }
        Due.refused(x, "loose(41)", Due.BEYOND, () -> x.loose(41));
        Due.due("loose(40)", x.loose(40) >= 0 ? 1 : 0, 1);
        Due.due("hours(60)", x.hours(60) >= 0 ? 1 : 0, 1);
        Due.due("HOUR", x.count(2), 100);
    }

    private static void theLastHour() {
        GlassEyes x = harbours(3);
        x.wearer();
        x.wear(0, 0, 0);
        for (int i = 0; i < 166; i++) {
            x.hours(60);
        }
        Due.due("HOUR", x.count(2), 9960);
        Due.refused(x, "hours(40) at 9960", Due.STATE, () -> x.hours(40));
        Due.refused(x, "loose(40) at 9960", Due.STATE, () -> x.loose(40));
        Due.refused(x, "hours(61) at 9960", Due.BEYOND, () -> x.hours(61));
        Due.refused(x, "loose(41) at 9960", Due.BEYOND, () -> x.loose(41));
        x.image();
        Due.due("hours(39), up to 9999", x.hours(39), 0);
        Due.due("HOUR", x.count(2), 9999);
        x.restore();
        Due.due("loose(39), up to 9999", x.loose(39), 0);
        Due.due("HOUR", x.count(2), 9999);
        Due.refused(x, "hours(1) at 9999", Due.STATE, () -> x.hours(1));
        Due.refused(x, "loose(1) at 9999", Due.STATE, () -> x.loose(1));
        x.wear(0, 0, 0);
        x.become(0, 0);
        x.change(0, 0, 0);
        Due.due("EYE at 9999, whose rest by 12 is 3", x.ofEye(0, 5), 3);
        Due.due("thought goes beyond 9999", x.then(2, 0, 3), x.ofWearer(0, 3) | 1 << 3 | 1 << 4);
        Due.due("HOUR", x.count(2), 9999);
    }

    /** Draws from 1 on: z is 1103527590, then -1769489043 .., worked out here in longs. */
    private static void draws() {
        GlassEyes x = harbours(0, 0, 0);
        x.wearer();
        long z = 1;
        int[] bases = new int[3];
        for (int i = 0; i < 25; i++) {
            z = (z * 1103515245L + 12345L) & 0xFFFFFFFFL;
            int drawn = (int) (z >> 8);
            bases[drawn % 3] = drawn / 8 % 10;
            Due.due("loose(1)", x.loose(1), 0);
            Due.due("z", x.count(9), (int) z);
            for (int e = 0; e < 3; e++) {
                Due.due("BASE of " + e, x.ofEye(e, 2), bases[e]);
            }
        }
        Due.due("HOUR", x.count(2), 25);
        Due.due("BEARS", x.ofWearer(0, 2), 45);
        GlassEyes y = harbours(0, 0, 0);
        y.wearer();
        y.loose(25);
        Due.same("25 at once", Due.look(y), Due.look(x));
        GlassEyes out = harbours(0);
        out.wearer();
        out.wear(0, 0, 0);
        out.seed(77);
        int[] first = {((77 * 1103515245 + 12345) >>> 8) / 8 % 10};
        out.loose(1);
        Due.due("the draw is ahead of the HOUR", out.ofWearer(0, 3), 1 << first[0]);
    }

    private static void drawsWithoutEyes() {
        GlassEyes x = new GlassEyes();
        Due.due("loose(2)", x.loose(2), 0);
        int z = 1103515245 + 12345;
        Due.due("a draw without EYES is a draw", x.count(9), z * 1103515245 + 12345);
    }

    private static void outByDraws() {
        GlassEyes x = harbours(0, 0);
        x.wearer();
        x.wearer();
        for (int t = 0; t < 10; t++) {
            x.dread(t, 9);
        }
        x.wear(0, 0, 0);
        x.wear(1, 1, 1);
        Due.due("loose(2), 18 of 20", x.loose(2), 0);
        Due.due("loose(1), both are out", x.loose(1), 2);
        Due.due("loose(5), none is worn", x.loose(5), 0);
    }

    private static void seed() {
        GlassEyes x = new GlassEyes();
        Due.due("seed(5)", x.seed(5), 1);
        Due.due("seed(MIN)", x.seed(Integer.MIN_VALUE), 5);
        Due.due("seed(-1000000001)", x.seed(-1000000001), Integer.MIN_VALUE);
        Due.due("seed(0)", x.seed(0), -1000000001);
        Due.due("count(9)", x.count(9), 0);
        for (int k = 1; k <= 5; k++) {
            Due.due("a number like an ERROR is none", x.told(k), 0);
        }
        x.loose(1);
        Due.due("from 0", x.count(9), 12345);
    }
}
