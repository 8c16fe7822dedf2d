/** Promises 36 to 41: images, numbers that wait, counts, what is told. */
public final class ImagesTest {
    public static void main(String[] args) {
        image();
        whatAnImageLeavesOut();
        tell();
        check();
        count();
        told();
        theLastCall();
        Due.end("ImagesTest");
    }

    private static GlassEyes some() {
        GlassEyes x = new GlassEyes();
        x.eye(4, 3);
        x.eye(17, 5);
        x.eye(62, 8);
        x.wearer();
        x.wearer();
        x.wear(0, 0, 0);
        x.wear(0, 1, 2);
        x.wear(1, 0, 1);
        x.dread(3, 7);
        x.hours(2);
        Due.read(x, 0, "b*2+h");
        Due.read(x, 1, "l<r");
        x.seed(99);
        x.tell(40);
        x.tell(41);
        Due.feedAll(x, "m+1");
        return x;
    }

    private static void image() {
        GlassEyes x = some();
        Due.refused(x, "restore(), no IMAGE", Due.NONE, x::restore);
        Due.due("image()", x.image(), 1);
        String was = Due.look(x);
        String ahead = ahead(x);
        x.eye(0, 0);
        x.wearer();
        x.set(0, 0, 3);
        x.set(1, 1, 77);
        x.change(0, 0, 9);
        x.change(1, 1, 500);
        x.become(2, 11);
        x.wear(1, 1, 3);
        x.wear(0, 0, -1);
        x.dread(3, 0);
        x.dread(9, 0);
        x.loose(7);
        x.text(0);
        Due.read(x, 1, "0");
        x.feed('b', 1);
        x.check();
        x.tell(5);
        Due.due("restore()", x.restore(), 2);
        Due.same("all behind restore()", Due.look(x), was);
        Due.same("what is thought behind restore()", ahead(x), ahead);
        Due.due("THE TAPE goes on", x.text(0), 1);
        Due.due("m+1", x.law(0, 1, 2, 8), 9);
        Due.due("restore() again", x.restore(), 2);
        Due.same("all behind restore() again", Due.look(x), was);
        x.hours(5);
        Due.due("image() in place of it", x.image(), 2);
        x.hours(3);
        Due.due("restore()", x.restore(), 7);
        Due.due("image(), how often goes on", x.image(), 3);
        GlassEyes empty = new GlassEyes();
        empty.image();
        empty.eye(0, 0);
        empty.wearer();
        empty.hours(1);
        Due.due("restore() of a new one", empty.restore(), 0);
        Due.due("no EYES", empty.count(0), 0);
        Due.due("no WEARERS", empty.count(1), 0);
        empty.wearer();
        Due.due("a WEARER is as at first", empty.ofWearer(0, 0), -1);
        empty.eye(0, 0);
        Due.due("an EYE is as at first", empty.ofEye(0, 3), 0);
    }

    private static String ahead(GlassEyes x) {
        StringBuilder all = new StringBuilder();
        for (int n = 0; n <= 60; n += 5) {
            all.append(x.then(n, 0, 2)).append(' ').append(x.then(n, 1, 3)).append(' ').append(x.dreads(n)).append(' ');
        }
        return all.toString();
    }

    private static void whatAnImageLeavesOut() {
        GlassEyes x = some();
        x.sheet(0, 8, 1);
        x.voice(0, 0, 0);
        x.image();
        x.sheet(0, 0, 0);
        x.sheet(1, 8, 3);
        x.put(1, 0, 5);
        x.voice(0, 3, 0);
        x.eye(70, 0);
        x.restore();
        Due.due("SHEET 0 is missing yet", x.judge(0), Due.NONE);
        Due.due("SHEET 1 is there yet", x.bases(1), 3);
        Due.due("SHEET 1 has its number yet", x.ofEye(0, 2), 5);
        Due.due("THE TRACE is the latest", x.count(8), 4);
        Due.due("told(1)", x.told(1), 1);
        Due.due("told(2)", x.told(2), 1);
        x.image();
        x.restore();
        Due.due("image()", x.image(), 3);
    }

    private static void tell() {
        GlassEyes x = new GlassEyes();
        for (int i = 1; i <= 20; i++) {
            Due.due("tell(" + i + ")", x.tell(i), i);
        }
        Due.refused(x, "tell(21)", Due.FULL, () -> x.tell(21));
        Due.due("count(7)", x.count(7), 20);
        Due.due("check()", x.check(), 1);
        Due.due("count(7)", x.count(7), 0);
        Due.due("tell(MIN)", x.tell(Integer.MIN_VALUE), 1);
    }

    private static void check() {
        GlassEyes x = new GlassEyes();
        Due.due("check() of none", x.check(), 0);
        x.tell(0);
        x.tell(0);
        Due.due("check() without WEARERS", x.check(), 0);
        x.eye(30, 4);
        x.wearer();
        x.wearer();
        x.wear(0, 0, 0);
        int[] sums = {37, 34, 31, 28, 45, 47, 49};
        String was = Due.look(x);
        for (int s : sums) {
            x.tell(s);
        }
        Due.due("check(), all", x.check(), 0);
        Due.due("none wait", x.count(7), 0);
        Due.same("all behind check()", Due.look(x), was);
        for (int wrong = 0; wrong < sums.length; wrong++) {
            for (int i = 0; i < sums.length; i++) {
                x.tell(sums[i] + (i >= wrong ? 1 : 0));
            }
            Due.due("check(), wrong from " + wrong, x.check(), 1 + wrong);
            Due.due("none wait", x.count(7), 0);
        }
        for (int i = 0; i < 20; i++) {
            x.tell(i < 7 ? sums[i] : 49 + 2 * (i - 6));
        }
        Due.due("check() of 20", x.check(), 0);
    }

    private static void count() {
        GlassEyes x = some();
        x.voice(0, 3, 1);
        x.set(0, 1, 5);
        x.set(1, 1, 514);
        x.set(0, 0, 30);
        x.set(1, 0, 12);
        int[] want = {3, 2, 2, 42, 519, 7, 3, 2, 4, 99};
        for (int what = 0; what < 10; what++) {
            Due.due("count(" + what + ")", x.count(what), want[what]);
        }
        x.wear(0, 0, -1);
        Due.due("count(5)", x.count(5), 6);
        int[] wrong = {-1, 10, Integer.MIN_VALUE, Integer.MAX_VALUE};
        for (int what : wrong) {
            Due.refused(x, "count(" + what + ")", Due.BEYOND, () -> x.count(what));
        }
    }

    private static void told() {
        GlassEyes x = new GlassEyes();
        int[] wrong = {0, 6, -1, Integer.MIN_VALUE, Integer.MAX_VALUE};
        int beyond = 0;
        for (int k : wrong) {
            Due.due("told(" + k + ")", x.told(k), Due.BEYOND);
            beyond++;
            Due.due("told(1)", x.told(1), beyond);
        }
        x.trace(0);
        x.trace(0);
        x.sheet(0, 8, -1);
        for (int w = 0; w < 10; w++) {
            x.wearer();
        }
        x.eye(10, 0);
        x.as(0, 2);
        int[] want = {0, 5, 2, 1, 4, 1};
        for (int k = 1; k <= 5; k++) {
            Due.due("told(" + k + ")", x.told(k), want[k]);
        }
    }

    /** An object is used for at most 512 calls: the 512th is yet answered as all are. */
    private static void theLastCall() {
        GlassEyes often = new GlassEyes();
        for (int i = 1; i <= 512; i++) {
            Due.due("image(), call " + i, often.image(), i);
        }
        GlassEyes wrong = new GlassEyes();
        for (int i = 1; i <= 511; i++) {
            wrong.told(6);
        }
        Due.due("told(1), call 512", wrong.told(1), 511);
        GlassEyes drawn = new GlassEyes();
        int z = 1;
        for (int i = 1; i <= 511; i++) {
            drawn.loose(1);
            z = z * 1103515245 + 12345;
        }
        Due.due("count(9), call 512", drawn.count(9), z);
    }
}
