/** Promises 17 to 27: what would be. Nothing that is thought changes anything. */
public final class ThoughtTest {
    private static final int MIN = Integer.MIN_VALUE;
    private static final int MAX = Integer.MAX_VALUE;

    public static void main(String[] args) {
        then();
        out();
        eyeFor();
        watch();
        whose();
        whoseWithoutBearing();
        whoseWornOnWithBearsOfNothing();
        lend();
        blind();
        agree();
        agreeWithinTwelve();
        dreads();
        swap();
        swapOfBothSides();
        odds();
        oddsOfOneAlready();
        Due.end("ThoughtTest");
    }

    /** EYES of a KIND with m 0, a BASE each, and wearers. */
    private static GlassEyes made(int kind, int wearers, int... bases) {
        GlassEyes x = new GlassEyes();
        for (int base : bases) {
            x.eye(10 * kind, base);
        }
        for (int w = 0; w < wearers; w++) {
            x.wearer();
        }
        return x;
    }

    private static void then() {
        GlassEyes x = made(3, 2, 4, 7);
        x.wear(0, 0, 0);
        x.wear(0, 1, 1);
        String was = Due.look(x);
        int[][] want = { // LEFT, RIGHT, BEARS, SEEN of wearer 0 behind 0, 1, ..; BEARS goes 20, 16, 9, 5, out, ..
            {0, 1, 20, 0}, {0, 1, 16, 16}, {0, 1, 9, 144}, {0, 1, 5, 144}, {0, -1, 20, 144}, {0, -1, 16, 144},
            {0, -1, 12, 144}, {0, -1, 8, 144}, {0, -1, 4, 144}, {-1, -1, 20, 144}, {-1, -1, 21, 144}};
        for (int n = 0; n < want.length; n++) {
            for (int what = 0; what < 4; what++) {
                Due.due("then(" + n + ", 0, " + what + ")", x.then(n, 0, what), want[n][what]);
            }
            Due.due("then(" + n + ", 1, 2)", x.then(n, 1, 2), 20 + n);
        }
        Due.due("then(60, 1, 2)", x.then(60, 1, 2), 80);
        Due.same("all behind then", Due.look(x), was);
        int[][] wrong = {{-1, 0, 0}, {61, 0, 0}, {0, -1, 0}, {0, 2, 0}, {0, 0, -1}, {0, 0, 4}, {MIN, 0, 0}, {MAX, 0, 0},
            {0, MIN, 0}, {0, MAX, 0}, {0, 0, MIN}, {0, 0, MAX}};
        for (int[] w : wrong) {
            Due.refused(x, "then(" + w[0] + ", " + w[1] + ", " + w[2] + ")", Due.BEYOND, () -> x.then(w[0], w[1], w[2]));
        }
    }

    private static void out() {
        GlassEyes x = made(3, 4, 4, 5, 5, 1);
        x.wear(1, 0, 0);
        Due.due("out(0), 20 by 4", x.out(0), 5);
        Due.due("out(1)", x.out(1), 1);
        x.wear(3, 1, 1);
        Due.due("out(0), 20 by 5", x.out(0), 4);
        Due.due("out(1)", x.out(1), 3);
        x.wear(2, 1, 2);
        Due.due("out(0), two at once", x.out(0), 4);
        Due.due("out(1), the least", x.out(1), 2);
        x.set(0, 0, 3);
        x.wear(0, 0, 3);
        Due.due("out(0)", x.out(0), 3);
        Due.due("out(1)", x.out(1), 0);
        x.hours(3);
        Due.due("out(0), what was is not asked", x.out(0), 1);
        Due.due("out(1), what was is not asked", x.out(1), 2);
        int[] wrong = {-1, 2, MIN, MAX};
        for (int what : wrong) {
            Due.refused(x, "out(" + what + ")", Due.BEYOND, () -> x.out(what));
        }
        GlassEyes y = made(3, 1, 1);
        y.wear(0, 0, 0);
        y.set(0, 0, 60);
        Due.due("out(0), by 60", y.out(0), 60);
        y.set(0, 0, 61);
        Due.refused(y, "out(0), not by 60", Due.NONE, () -> y.out(0));
        Due.refused(y, "out(1), not by 60", Due.NONE, () -> y.out(1));
        Due.refused(y, "out(2), not by 60", Due.BEYOND, () -> y.out(2));
    }

    private static void eyeFor() {
        GlassEyes x = made(3, 2, 4, 2, 9, 2);
        x.wear(0, 0, 0);
        x.wear(1, 1, 1);
        Due.due("eyeFor(0, 0, 0, 0), all the same", x.eyeFor(0, 0, 0, 0), 0);
        Due.due("eyeFor(0, 0, 0, 1)", x.eyeFor(0, 0, 0, 1), 20);
        Due.due("eyeFor(0, 0, 1, 0), from the other one", x.eyeFor(0, 0, 1, 0), 1);
        Due.due("eyeFor(0, 0, 1, 1)", x.eyeFor(0, 0, 1, 1), 18);
        Due.due("eyeFor(0, 0, 3, 0), 9 is out by then", x.eyeFor(0, 0, 3, 0), 2);
        Due.due("eyeFor(0, 0, 3, 1)", x.eyeFor(0, 0, 3, 1), 20);
        Due.due("eyeFor(0, 1, 1, 0), HOUR 0: 0 is HEEDED on either side", x.eyeFor(0, 1, 1, 0), 0);
        Due.due("eyeFor(0, 1, 1, 1)", x.eyeFor(0, 1, 1, 1), 16);
        x.change(0, 0, 1);
        x.dread(1, 9);
        Due.due("eyeFor(0, 1, 1, 1), 9 by the LEFT one in any case", x.eyeFor(0, 1, 1, 1), 11);
        Due.due("eyeFor(0, 1, 1, 0)", x.eyeFor(0, 1, 1, 0), 0);
        Due.due("eyeFor(0, 0, 60, 1), out by 3 at last", x.eyeFor(0, 0, 60, 1), 77);
        String was = Due.look(x);
        x.eyeFor(1, 0, 60, 0);
        Due.same("all behind eyeFor", Due.look(x), was);
        int[][] wrong = {{-1, 0, 0, 0}, {2, 0, 0, 0}, {0, -1, 0, 0}, {0, 2, 0, 0}, {0, 0, -1, 0}, {0, 0, 61, 0},
            {0, 0, 0, -1}, {0, 0, 0, 2}, {MIN, 0, 0, 0}, {0, MAX, 0, 0}, {0, 0, MIN, 0}, {0, 0, 0, MAX}};
        for (int[] w : wrong) {
            Due.refused(x, "eyeFor(" + w[0] + ", " + w[1] + ", " + w[2] + ", " + w[3] + ")", Due.BEYOND,
                () -> x.eyeFor(w[0], w[1], w[2], w[3]));
        }
        GlassEyes none = made(3, 1);
        Due.refused(none, "eyeFor without EYES", Due.NONE, () -> none.eyeFor(0, 0, 1, 0));
        Due.refused(none, "eyeFor without EYES, no such WEARER", Due.BEYOND, () -> none.eyeFor(1, 0, 1, 0));
        Due.refused(none, "eyeFor without EYES, no such what", Due.BEYOND, () -> none.eyeFor(0, 0, 1, 2));
    }

    private static void watch() {
        GlassEyes x = made(0, 2, 1);
        x.wear(0, 1, 0);
        for (int t = 0; t < 10; t++) {
            x.dread(t, 0);
        }
        Due.due("watch(0, 1)", x.watch(0, 1), 1);
        Due.due("watch(0, 2)", x.watch(0, 2), 2);
        Due.due("watch(0, 0)", x.watch(0, 0), 10);
        x.set(0, 1, 1023);
        Due.due("watch(0, 9), SEEN long ago", x.watch(0, 9), 9);
        Due.refused(x, "watch(1, 1), with nothing", Due.NONE, () -> x.watch(1, 1));
        x.set(1, 1, 1023);
        Due.refused(x, "watch(1, 1), with nothing, SEEN long ago", Due.NONE, () -> x.watch(1, 1));
        x.dread(3, 9);
        x.set(0, 0, 5);
        Due.due("watch(0, 3), as it is out", x.watch(0, 3), 3);
        Due.refused(x, "watch(0, 4), it is out", Due.NONE, () -> x.watch(0, 4));
        Due.read(x, 0, "m+5");
        x.become(0, 49);
        x.change(0, 1, 0);
        Due.due("ALLEY: 14 and 9", x.watch(0, 3), 1);
        Due.due("ALLEY: 14 and 9 and 1", x.watch(0, 4), 2);
        Due.due("ALLEY: 14 and 9 and 2", x.watch(0, 5), 3);
        Due.refused(x, "ALLEY: never", Due.NONE, () -> x.watch(0, 7));
        int[][] wrong = {{-1, 0}, {2, 0}, {0, -1}, {0, 10}, {MIN, 0}, {MAX, 0}, {0, MIN}, {0, MAX}};
        for (int[] w : wrong) {
            Due.refused(x, "watch(" + w[0] + ", " + w[1] + ")", Due.BEYOND, () -> x.watch(w[0], w[1]));
        }
        GlassEyes y = made(3, 1, 1, 9);
        y.wear(0, 0, 1);
        y.wear(0, 1, 0);
        y.set(0, 0, 59);
        y.dread(1, 1);
        Due.read(y, 1, "1");
        Due.due("watch(0, 9) behind 59 of 1", y.watch(0, 9), 60);
        y.set(0, 0, 60);
        Due.refused(y, "watch(0, 9) behind 60 of 1", Due.NONE, () -> y.watch(0, 9));
    }

    private static void whose() {
        GlassEyes x = new GlassEyes();
        x.eye(0, 3);
        x.eye(30, 3);
        x.eye(60, 3);
        x.eye(10, 3);
        x.eye(41, 2);
        x.wearer();
        x.wearer();
        x.wear(0, 1, 0);
        x.wear(1, 0, 3);
        Due.refused(x, "whose(0, 0, 0), missing", Due.NONE, () -> x.whose(0, 0, 0));
        x.sheet(0, 8, 0);
        Due.due("whose of no HOURS: all", x.whose(0, 0, 0), 31);
        Due.due("whose of no HOURS: how many", x.whose(0, 0, 1), 5);
        x.sheet(0, 16, 2);
        x.put(0, 0, 3);
        x.put(0, 1, 4);
        Due.due("3, 4", x.whose(0, 0, 0), 1 + 4 + 8);
        Due.due("3, 4: how many", x.whose(0, 1, 1), 3);
        x.sheet(1, 32, 3);
        x.put(1, 0, 3);
        x.put(1, 1, 3);
        x.put(1, 2, 3);
        Due.due("3, 3, 3", x.whose(1, 1, 0), 2);
        x.put(1, 1, 4);
        Due.due("3, 4, 3", x.whose(1, 0, 0), 4);
        x.put(1, 1, 5);
        x.put(1, 2, 7);
        Due.due("3, 5, 7: the ALLEY is worn on", x.whose(1, 0, 0), 16);
        x.put(1, 1, 10);
        Due.due("3, 10, 7", x.whose(1, 0, 0), 0);
        String was = Due.look(x);
        x.whose(1, 0, 0);
        Due.same("all behind whose", Due.look(x), was);
        int[][] wrong = {{-1, 0, 0}, {4, 0, 0}, {0, -1, 0}, {0, 2, 0}, {0, 0, -1}, {0, 0, 2}, {2, 2, 0}, {2, 0, 2},
            {MIN, 0, 0}, {MAX, 0, 0}, {0, MAX, 0}, {0, 0, MIN}};
        for (int[] w : wrong) {
            Due.refused(x, "whose(" + w[0] + ", " + w[1] + ", " + w[2] + ")", Due.BEYOND, () -> x.whose(w[0], w[1], w[2]));
        }
    }

    private static void whoseWithoutBearing() {
        GlassEyes x = made(3, 1, 9, 8);
        x.sheet(0, 8, 40);
        for (int i = 0; i < 40; i++) {
            x.put(0, i, 9);
        }
        x.set(0, 0, 1);
        Due.due("BEARS is never less: 40 HOURS of 9", x.whose(0, 0, 0), 1);
        x.set(0, 0, 0);
        Due.due("BEARS of 0: it wears the EYE in all of these HOURS", x.whose(0, 0, 0), 1);
        Due.due("and BEARS of it stays", x.ofWearer(0, 2), 0);
        for (int i = 1; i < 40; i++) {
            x.put(0, i, 10);
        }
        Due.due("so never HEEDS nothing, with 0", x.whose(0, 0, 0), 0);
        x.set(0, 0, 1);
        Due.due("nor with 1", x.whose(0, 0, 0), 0);
    }

    /** An ALLEY with m 1 and BASE 2 shows 3, 5, 7, 6 ..: it goes on being worn, though others take theirs out meanwhile. */
    private static void whoseWornOnWithBearsOfNothing() {
        GlassEyes x = new GlassEyes();
        x.eye(41, 2);
        x.eye(30, 9);
        x.wearer();
        x.wearer();
        x.wearer();
        x.wear(1, 0, 1);
        x.wear(2, 1, 0);
        for (int wearer = 0; wearer < 3; wearer++) {
            x.set(wearer, 0, 0);
        }
        int[] things = {3, 5, 7, 6, 8, 0, 9};
        x.sheet(2, 16, things.length);
        for (int i = 0; i < things.length; i++) {
            x.put(2, i, things[i]);
        }
        for (int wearer = 0; wearer < 3; wearer++) {
            Due.due("the ALLEY by " + wearer, x.whose(2, wearer, 0), 1);
            Due.due("the ALLEY by " + wearer + ", how many", x.whose(2, wearer, 1), 1);
        }
        Due.due("hours are not spared: both worn ones are out", x.hours(1), 2);
    }

    private static void lend() {
        GlassEyes x = made(3, 0, 1, 2, 2);
        Due.due("lend without WEARERS", x.lend(3), -1);
        x.wearer();
        x.wearer();
        x.wear(0, 0, 0);
        Due.due("lend(0): the first that can be", x.lend(0), 101);
        Due.due("lend(1): the LEFT one of 0 is heeded; 1 has none", x.lend(1), 110);
        Due.due("lend(2)", x.lend(2), 101);
        x.become(2, 60);
        Due.due("lend(3): 2 shows 2 and 3, to 0 beside 1: 1 and 3; to 1: 1, 2, 3", x.lend(3), 210);
        x.set(1, 1, 1023);
        Due.due("lend(3): all are SEEN", x.lend(3), 101);
        x.wear(0, 1, 1);
        x.wear(1, 0, 2);
        Due.due("lend(3): no EYE", x.lend(3), -1);
        x.eye(30, 7);
        Due.due("lend(3): one side", x.lend(3), 311);
        x.eye(30, 7);
        x.wear(1, 1, 3);
        Due.due("lend(3): no side", x.lend(3), -1);
        x.wear(0, 0, -1);
        Due.due("lend(3): the least EYE of one side", x.lend(3), 0);
        String was = Due.look(x);
        Due.due("lend(30)", x.lend(30), 0);
        Due.same("all behind lend", Due.look(x), was);
        int[] wrong = {-1, 31, MIN, MAX};
        for (int n : wrong) {
            Due.refused(x, "lend(" + n + ")", Due.BEYOND, () -> x.lend(n));
        }
        Due.due("lend(3), a new one", new GlassEyes().lend(3), -1);
    }

    private static void blind() {
        GlassEyes x = made(0, 2, 2, 5);
        x.wear(0, 0, 0);
        x.wear(1, 1, 1);
        for (int t = 0; t < 10; t++) {
            x.dread(t, 0);
        }
        Due.due("blind(0)", x.blind(0), 1023);
        Due.due("blind(1)", x.blind(1), 1023 - 4 - 32);
        Due.due("blind(2)", x.blind(2), 1023 - 12 - 96);
        x.set(0, 1, 1);
        Due.due("blind(0), one SEEN", x.blind(0), 1022);
        Due.due("blind(60)", x.blind(60), 0);
        Due.due("SEEN", x.count(4), 1);
        int[] wrong = {-1, 61, MIN, MAX};
        for (int n : wrong) {
            Due.refused(x, "blind(" + n + ")", Due.BEYOND, () -> x.blind(n));
        }
    }

    private static void agree() {
        GlassEyes x = made(3, 4, 3, 3, 3, 5);
        x.eye(60, 2);
        Due.refused(x, "agree(0), nobody", Due.NONE, () -> x.agree(0));
        Due.refused(x, "agree(1), nobody", Due.NONE, () -> x.agree(1));
        for (int t = 0; t < 10; t++) {
            x.dread(t, 0);
        }
        x.wear(0, 0, 3);
        Due.due("agree(0), one", x.agree(0), 0);
        Due.due("agree(1), one", x.agree(1), 1);
        x.wear(1, 0, 0);
        x.wear(2, 0, 4);
        Due.due("agree(0), 3 and MATCHED 3 at 1", x.agree(0), 1);
        Due.due("agree(1)", x.agree(1), 2);
        x.wear(0, 1, 1);
        Due.due("agree(0), by the RIGHT one", x.agree(0), 1);
        Due.due("agree(1), by the RIGHT one", x.agree(1), 3);
        x.hours(1);
        Due.due("agree(0), from now on", x.agree(0), 0);
        x.hours(1);
        Due.due("agree(0), from now on", x.agree(0), 1);
        Due.read(x, 1, "h=1");
        Due.due("agree(0), at HOUR 13 of 2 to 13", x.agree(0), 11);
        Due.due("agree(1)", x.agree(1), 3);
        x.hours(1);
        x.wear(0, 0, -1);
        x.wear(0, 1, -1);
        x.wear(1, 0, -1);
        x.set(2, 0, 0);
        Due.due("agree(0), as the HOUR goes by in which it is out", x.agree(0), 0);
        Due.due("agree(1)", x.agree(1), 1);
        int[] wrong = {-1, 2, MIN, MAX};
        for (int what : wrong) {
            Due.refused(x, "agree(" + what + ")", Due.BEYOND, () -> x.agree(what));
        }
        GlassEyes none = new GlassEyes();
        Due.refused(none, "agree(2), nobody", Due.BEYOND, () -> none.agree(2));
        Due.refused(none, "agree(1), nobody", Due.NONE, () -> none.agree(1));
    }

    private static void agreeWithinTwelve() {
        GlassEyes x = made(3, 2, 3, 5, 3);
        x.dread(3, 0);
        x.dread(5, 1);
        Due.read(x, 1, "0");
        x.wear(0, 0, 0);
        x.wear(1, 0, 1);
        x.wear(1, 1, 2);
        x.set(1, 0, 11);
        Due.due("agree(0), 5 is out behind 11", x.agree(0), 11);
        Due.due("agree(1), 5 is out behind 11", x.agree(1), 2);
        x.set(1, 0, 12);
        Due.due("agree(0), 5 is out behind 12", x.agree(0), 0);
        Due.due("agree(1), 5 is out behind 12", x.agree(1), 1);
        x.change(0, 0, 0);
        x.change(2, 0, 0);
        x.set(1, 0, 3);
        Due.due("agree(0), on 0", x.agree(0), 3);
        Due.due("agree(1), on 0", x.agree(1), 2);
    }

    private static void dreads() {
        GlassEyes x = made(3, 3, 9, 4);
        x.wear(0, 0, 0);
        x.wear(1, 0, 1);
        int[] want = {0, 13, 26, 32, 36, 40, 40};
        for (int n = 0; n < want.length; n++) {
            Due.due("dreads(" + n + ")", x.dreads(n), want[n]);
        }
        Due.due("dreads(60)", x.dreads(60), 40);
        x.hours(3);
        Due.due("dreads(60), what was is not counted", x.dreads(60), 8);
        x.become(1, 40);
        Due.due("dreads(60), nothing is heavy", x.dreads(60), 0);
        int[] wrong = {-1, 61, MIN, MAX};
        for (int n : wrong) {
            Due.refused(x, "dreads(" + n + ")", Due.BEYOND, () -> x.dreads(n));
        }
    }

    private static void swap() {
        GlassEyes x = made(0, 3, 1);
        for (int t = 0; t < 10; t++) {
            x.dread(t, 9);
        }
        x.wear(0, 0, 0);
        x.set(1, 0, 99);
        x.set(2, 0, 99);
        Due.due("swap(0)", x.swap(0), -1);
        Due.due("swap(3): out behind 3 else", x.swap(3), -1);
        Due.due("swap(4)", x.swap(4), 1);
        x.set(2, 1, 1);
        Due.due("swap(4), things that were SEEN count for both", x.swap(4), 1);
        x.set(1, 0, 20);
        Due.due("swap(4), 2 bears more", x.swap(4), 2);
        x.set(0, 0, 5);
        Due.due("swap(30), most", x.swap(30), 2);
        x.wear(1, 0, 0);
        x.set(1, 0, 5);
        Due.due("swap(30)", x.swap(30), 12);
        x.wear(1, 0, -1);
        x.wear(2, 1, 0);
        Due.due("swap(30), the best has it", x.swap(30), -1);
        String was = Due.look(x);
        x.swap(30);
        Due.same("all behind swap", Due.look(x), was);
        int[] wrong = {-1, 31, MIN, MAX};
        for (int n : wrong) {
            Due.refused(x, "swap(" + n + ")", Due.BEYOND, () -> x.swap(n));
        }
        Due.due("swap(3), a new one", new GlassEyes().swap(3), -1);
    }

    /** 0 has 1 and 2, 1 has 5 and 1, and both HEED 1; did the LEFT ones alone change, 2 were SEEN too. */
    private static void swapOfBothSides() {
        GlassEyes x = made(3, 2, 1, 2, 5, 1);
        Due.read(x, 1, "l>r");
        x.wear(0, 0, 0);
        x.wear(0, 1, 1);
        x.wear(1, 0, 2);
        x.wear(1, 1, 3);
        Due.due("blind(2)", x.blind(2), 1023 - 2);
        Due.due("swap(2)", x.swap(2), -1);
    }

    private static void odds() {
        GlassEyes x = made(3, 2, 1, 2, 2, 2, 5, 6);
        x.wear(0, 0, 4);
        x.wear(0, 1, 0);
        x.wear(1, 0, 1);
        int[][] want = {{2, 1, 1, 2}, {1, 1, 1, 6}, {3, 9, 0, 1}, {6, 60, 1, 6}, {2, 0, 0, 1}};
        for (int[] w : want) {
            Due.due("odds(0, " + w[0] + ", " + w[1] + ", 0)", x.odds(0, w[0], w[1], 0), w[2]);
            Due.due("odds(0, " + w[0] + ", " + w[1] + ", 1)", x.odds(0, w[0], w[1], 1), w[3]);
        }
        String was = Due.look(x);
        x.odds(1, 2, 60, 0);
        Due.same("all behind odds", Due.look(x), was);
        int[][] wrong = {{-1, 0, 0, 0}, {2, 0, 0, 0}, {0, -1, 0, 0}, {0, 10, 0, 0}, {0, 0, -1, 0}, {0, 0, 61, 0},
            {0, 0, 0, -1}, {0, 0, 0, 2}, {MIN, 0, 0, 0}, {0, MAX, 0, 0}, {0, 0, MIN, 0}, {0, 0, 0, MAX}};
        for (int[] w : wrong) {
            Due.refused(x, "odds(" + w[0] + ", " + w[1] + ", " + w[2] + ", " + w[3] + ")", Due.BEYOND,
                () -> x.odds(w[0], w[1], w[2], w[3]));
        }
        GlassEyes none = made(3, 1);
        Due.refused(none, "odds without EYES", Due.NONE, () -> none.odds(0, 0, 0, 1));
        Due.refused(none, "odds without EYES, no such part", Due.BEYOND, () -> none.odds(0, 0, 0, 2));
    }

    private static void oddsOfOneAlready() {
        GlassEyes x = made(3, 1, 1, 2, 4);
        x.set(0, 1, 8);
        Due.due("odds of what was SEEN ahead", x.odds(0, 3, 0, 0), 1);
        Due.due("odds of what was SEEN ahead, below", x.odds(0, 3, 0, 1), 1);
        Due.due("odds of another", x.odds(0, 4, 5, 1), 3);
        x.eye(30, 4);
        Due.due("2 of 4", x.odds(0, 4, 5, 0), 1);
        Due.due("2 of 4, below", x.odds(0, 4, 5, 1), 2);
    }
}
