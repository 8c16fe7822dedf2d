/** Promises 1 to 11: a new object, things, eyes, wearers. */
public final class ThingsTest {
    private static final int MIN = Integer.MIN_VALUE;
    private static final int MAX = Integer.MAX_VALUE;

    public static void main(String[] args) {
        newObject();
        dread();
        eye();
        kindsShow();
        kindsAreHeavy();
        change();
        wearer();
        set();
        wear();
        heeds();
        become();
        as();
        Due.end("ThingsTest");
    }

    private static void newObject() {
        GlassEyes x = new GlassEyes();
        int[] counts = {0, 0, 0, 0, 0, 0, 0, 0, 0, 1};
        for (int what = 0; what < 10; what++) {
            Due.due("new: count(" + what + ")", x.count(what), counts[what]);
        }
        for (int k = 1; k <= 5; k++) {
            Due.due("new: told(" + k + ")", x.told(k), 0);
        }
        for (int thing = 0; thing < 10; thing++) {
            Due.due("new: dread(" + thing + ", 0)", x.dread(thing, 0), thing);
        }
        for (int sheet = 0; sheet < 4; sheet++) {
            Due.due("new: judge(" + sheet + ")", x.judge(sheet), Due.NONE);
        }
        Due.due("new: trace(0)", x.trace(0), Due.NONE);
        Due.due("new: restore()", x.restore(), Due.NONE);
        Due.due("new: law(0)", x.law(0, 3, 4, 9), 7);
        Due.due("new: law(1)", x.law(1, 3, 4, 9), 1);
        Due.due("new: ofEye(0, 0)", x.ofEye(0, 0), Due.BEYOND);
        Due.due("new: ofWearer(0, 0)", x.ofWearer(0, 0), Due.BEYOND);
    }

    private static void dread() {
        GlassEyes x = new GlassEyes();
        Due.due("dread(4, 9)", x.dread(4, 9), 4);
        Due.due("dread(4, 0)", x.dread(4, 0), 9);
        Due.due("dread(4, 4)", x.dread(4, 4), 0);
        Due.due("dread(0, 9)", x.dread(0, 9), 0);
        Due.due("dread(9, 0)", x.dread(9, 0), 9);
        int[][] wrong = {{-1, 0}, {10, 0}, {0, -1}, {0, 10}, {MIN, MAX}, {MAX, MIN}};
        for (int[] w : wrong) {
            Due.refused(x, "dread(" + w[0] + ", " + w[1] + ")", Due.BEYOND, () -> x.dread(w[0], w[1]));
        }
        Due.due("dread(0, 1)", x.dread(0, 1), 9);
    }

    private static void eye() {
        GlassEyes x = new GlassEyes();
        int[][] wrong = {{-1, 0}, {70, 0}, {0, -1}, {0, 10}, {MIN, 0}, {MAX, 0}, {0, MIN}, {0, MAX}};
        for (int[] w : wrong) {
            Due.refused(x, "eye(" + w[0] + ", " + w[1] + ")", Due.BEYOND, () -> x.eye(w[0], w[1]));
        }
        for (int e = 0; e < 8; e++) {
            int km = e < 7 ? 10 * e + e : 69;
            Due.due("eye(" + km + ", " + (9 - e) + ")", x.eye(km, 9 - e), e);
            Due.due("count(0)", x.count(0), e + 1);
            Due.due("KIND", x.ofEye(e, 0), km / 10);
            Due.due("m", x.ofEye(e, 1), km % 10);
            Due.due("BASE", x.ofEye(e, 2), 9 - e);
            Due.due("WORN", x.ofEye(e, 3), 0);
            Due.due("worn by", x.ofEye(e, 4), -1);
        }
        Due.refused(x, "eye(0, 0) with 8", Due.FULL, () -> x.eye(0, 0));
        Due.refused(x, "eye(70, 0) with 8", Due.BEYOND, () -> x.eye(70, 0));
        int[][] ofWrong = {{-1, 0}, {8, 0}, {0, -1}, {0, 7}, {MIN, 0}, {MAX, 0}, {0, MIN}, {0, MAX}};
        for (int[] w : ofWrong) {
            Due.refused(x, "ofEye(" + w[0] + ", " + w[1] + ")", Due.BEYOND, () -> x.ofEye(w[0], w[1]));
        }
    }

    /** m 7, BASE 8, WORN 5, in HOURS 0 to 13: what each kind shows, by hand. */
    private static void kindsShow() {
        GlassEyes x = new GlassEyes();
        for (int kind = 0; kind < 7; kind++) {
            x.eye(10 * kind + 7, 8);
            x.change(kind, 1, 5);
        }
        String[] shown = {
            "89012345678989", // v = 8 + HOUR % 12
            "56789012345656", // and 7
            "10987654321010", // 9 less that
            "88888888888888",
            "78901234567878", // as PLAIN, and 5 % 3
            "80988654821080", // BASE at 0, 4, 8, 12
            "89898989898989",
        };
        for (int hour = 0; hour < 14; hour++) {
            for (int kind = 0; kind < 7; kind++) {
                Due.due("kind " + kind + " at " + hour, x.ofEye(kind, 5), shown[kind].charAt(hour) - '0');
            }
            x.hours(1);
        }
        x.change(4, 1, 9999);
        Due.due("ALLEY at 14, WORN 9999", x.ofEye(4, 5), (8 + 2 + 7) % 10);
        x.change(4, 1, 9998);
        Due.due("ALLEY at 14, WORN 9998", x.ofEye(4, 5), (8 + 2 + 7 + 2) % 10);
        x.change(3, 0, 9);
        x.change(6, 0, 9);
        x.hours(1);
        Due.due("HARBOUR with 9", x.ofEye(3, 5), 9);
        Due.due("MATCHED with 9 at 15", x.ofEye(6, 5), 0);
        Due.read(x, 0, "99");
        Due.due("EYE by 99", x.ofEye(0, 5), 9);
        Due.due("PLAIN by 99", x.ofEye(1, 5), 6);
        Due.due("GENERAL by 99", x.ofEye(2, 5), 0);
        Due.due("HARBOUR by 99", x.ofEye(3, 5), 9);
        Due.read(x, 0, "m*10+3");
        Due.due("EYE by m", x.ofEye(0, 5), 3);
        Due.due("SHUT by m", x.ofEye(5, 5), 6);
    }

    private static void kindsAreHeavy() {
        GlassEyes x = new GlassEyes();
        for (int kind = 0; kind < 7; kind++) {
            x.eye(10 * kind, 0);
        }
        int[] heavy = {1, 1, 2, 1, 0, 2, 1};
        for (int hour = 0; hour < 9; hour++) {
            for (int kind = 0; kind < 7; kind++) {
                int want = kind == 5 && hour % 4 == 0 ? 0 : heavy[kind];
                Due.due("HEAVY of " + kind + " at " + hour, x.ofEye(kind, 6), want);
            }
            x.hours(1);
        }
    }

    private static void change() {
        GlassEyes x = new GlassEyes();
        x.eye(34, 6);
        x.eye(0, 1);
        Due.due("change(0, 0, 9)", x.change(0, 0, 9), 6);
        Due.due("change(0, 0, 0)", x.change(0, 0, 0), 9);
        Due.due("change(0, 1, 9999)", x.change(0, 1, 9999), 0);
        Due.due("change(0, 1, 3)", x.change(0, 1, 3), 9999);
        Due.due("BASE of 0", x.ofEye(0, 2), 0);
        Due.due("WORN of 0", x.ofEye(0, 3), 3);
        Due.due("BASE of 1", x.ofEye(1, 2), 1);
        Due.due("WORN of 1", x.ofEye(1, 3), 0);
        int[][] wrong = {{-1, 0, 0}, {2, 0, 0}, {0, -1, 0}, {0, 2, 0}, {0, 0, -1}, {0, 0, 10}, {0, 1, -1}, {0, 1, 10000},
            {MIN, 0, 0}, {MAX, 1, 0}, {0, MAX, 0}, {0, 1, MAX}, {0, 0, MIN}};
        for (int[] w : wrong) {
            Due.refused(x, "change(" + w[0] + ", " + w[1] + ", " + w[2] + ")", Due.BEYOND, () -> x.change(w[0], w[1], w[2]));
        }
    }

    private static void wearer() {
        GlassEyes x = new GlassEyes();
        for (int w = 0; w < 6; w++) {
            Due.due("wearer()", x.wearer(), w);
            Due.due("count(1)", x.count(1), w + 1);
            int[] want = {-1, -1, 20, 0, -1};
            for (int what = 0; what < 5; what++) {
                Due.due("ofWearer(" + w + ", " + what + ")", x.ofWearer(w, what), want[what]);
            }
        }
        Due.refused(x, "wearer() with 6", Due.FULL, x::wearer);
        int[][] wrong = {{-1, 0}, {6, 0}, {0, -1}, {0, 5}, {MIN, 0}, {MAX, 0}, {0, MIN}, {0, MAX}};
        for (int[] w : wrong) {
            Due.refused(x, "ofWearer(" + w[0] + ", " + w[1] + ")", Due.BEYOND, () -> x.ofWearer(w[0], w[1]));
        }
    }

    private static void set() {
        GlassEyes x = new GlassEyes();
        x.wearer();
        x.wearer();
        Due.due("set(1, 0, 99)", x.set(1, 0, 99), 20);
        Due.due("set(1, 0, 0)", x.set(1, 0, 0), 99);
        Due.due("set(1, 1, 1023)", x.set(1, 1, 1023), 0);
        Due.due("set(1, 1, 512)", x.set(1, 1, 512), 1023);
        Due.due("BEARS", x.ofWearer(1, 2), 0);
        Due.due("SEEN", x.ofWearer(1, 3), 512);
        Due.due("BEARS of the other", x.ofWearer(0, 2), 20);
        Due.due("SEEN of the other", x.ofWearer(0, 3), 0);
        int[][] wrong = {{-1, 0, 0}, {2, 0, 0}, {0, -1, 0}, {0, 2, 0}, {0, 0, -1}, {0, 0, 100}, {0, 1, -1}, {0, 1, 1024},
            {MIN, 0, 0}, {MAX, 1, 0}, {0, MAX, 0}, {0, 1, MAX}, {0, 0, MIN}};
        for (int[] w : wrong) {
            Due.refused(x, "set(" + w[0] + ", " + w[1] + ", " + w[2] + ")", Due.BEYOND, () -> x.set(w[0], w[1], w[2]));
        }
    }

    private static void wear() {
        GlassEyes x = new GlassEyes();
        for (int e = 0; e < 4; e++) {
            x.eye(30, e);
        }
        x.wearer();
        x.wearer();
        Due.due("wear(0, 0, 2)", x.wear(0, 0, 2), -1);
        Due.due("who wears 2", x.ofEye(2, 4), 0);
        Due.due("wear(0, 1, 3)", x.wear(0, 1, 3), -1);
        Due.due("who wears 3", x.ofEye(3, 4), 1);
        Due.due("wear(1, 1, 2), from the other", x.wear(1, 1, 2), -1);
        Due.due("who wears 2", x.ofEye(2, 4), 11);
        Due.due("LEFT of 0", x.ofWearer(0, 0), -1);
        Due.due("count(5)", x.count(5), 12);
        Due.due("wear(1, 1, 0), what was there is out", x.wear(1, 1, 0), 2);
        Due.due("who wears 2", x.ofEye(2, 4), -1);
        Due.due("wear(0, 0, 3), from its own other side", x.wear(0, 0, 3), -1);
        Due.due("RIGHT of 0", x.ofWearer(0, 1), -1);
        Due.due("LEFT of 0", x.ofWearer(0, 0), 3);
        Due.due("wear(0, 0, 3), where it is", x.wear(0, 0, 3), 3);
        Due.due("LEFT of 0", x.ofWearer(0, 0), 3);
        Due.due("wear(0, 0, -1)", x.wear(0, 0, -1), 3);
        Due.due("wear(0, 0, -1) again", x.wear(0, 0, -1), -1);
        Due.due("count(5)", x.count(5), 1);
        int[][] wrong = {{-1, 0, 0}, {2, 0, 0}, {0, -1, 0}, {0, 2, 0}, {0, 0, -2}, {0, 0, 4}, {MIN, 0, 0}, {0, MAX, 0}, {0, 0, MIN}, {0, 0, MAX}};
        for (int[] w : wrong) {
            Due.refused(x, "wear(" + w[0] + ", " + w[1] + ", " + w[2] + ")", Due.BEYOND, () -> x.wear(w[0], w[1], w[2]));
        }
    }

    private static void heeds() {
        GlassEyes x = new GlassEyes();
        x.eye(30, 4);
        x.eye(30, 5);
        x.wearer();
        x.dread(4, 0);
        x.dread(5, 0);
        x.wear(0, 0, 0);
        Due.due("with a LEFT one", x.ofWearer(0, 4), 0);
        x.wear(0, 0, -1);
        x.wear(0, 1, 1);
        Due.due("with a RIGHT one", x.ofWearer(0, 4), 1);
        x.wear(0, 0, 0);
        for (int hour = 0; hour < 14; hour++) {
            Due.due("with both at " + hour, x.ofWearer(0, 4), hour % 12 % 2);
            x.hours(1);
        }
        Due.read(x, 1, "r>l");
        Due.due("r>l", x.ofWearer(0, 4), 1);
        Due.read(x, 1, "l>r");
        Due.due("l>r", x.ofWearer(0, 4), 0);
        Due.read(x, 1, "l-5");
        Due.due("below 0 is held to 0", x.ofWearer(0, 4), 0);
    }

    private static void become() {
        GlassEyes x = new GlassEyes();
        x.eye(34, 6);
        x.wearer();
        x.wear(0, 1, 0);
        x.change(0, 1, 77);
        Due.due("become(0, 69)", x.become(0, 69), 3);
        Due.due("become(0, 0)", x.become(0, 0), 6);
        Due.due("become(0, 12)", x.become(0, 12), 0);
        int[] want = {1, 2, 6, 77, 1};
        for (int what = 0; what < 5; what++) {
            Due.due("ofEye(0, " + what + ")", x.ofEye(0, what), want[what]);
        }
        int[][] wrong = {{-1, 0}, {1, 0}, {0, -1}, {0, 70}, {MIN, 0}, {0, MAX}};
        for (int[] w : wrong) {
            Due.refused(x, "become(" + w[0] + ", " + w[1] + ")", Due.BEYOND, () -> x.become(w[0], w[1]));
        }
    }

    private static void as() {
        GlassEyes x = new GlassEyes();
        int[] above = {-1, 0, 0, 0, 1, 2, 3};
        for (int kind = 0; kind < 7; kind++) {
            x.eye(10 * kind + kind + 1, 0);
        }
        for (int kind = 0; kind < 7; kind++) {
            for (int other = 0; other < 7; other++) {
                boolean is = other == kind || other == 0 || other == above[kind];
                int eye = kind;
                int asked = other;
                if (is) {
                    Due.due("as(" + eye + ", " + asked + ")", x.as(eye, asked), kind + 1);
                } else {
                    Due.refused(x, "as(" + eye + ", " + asked + ")", Due.KIND, () -> x.as(eye, asked));
                }
            }
        }
        int[][] wrong = {{-1, 0}, {7, 0}, {0, -1}, {0, 7}, {MIN, 0}, {0, MAX}};
        for (int[] w : wrong) {
            Due.refused(x, "as(" + w[0] + ", " + w[1] + ")", Due.BEYOND, () -> x.as(w[0], w[1]));
        }
    }
}
