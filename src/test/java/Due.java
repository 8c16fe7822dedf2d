import java.util.function.IntSupplier;

/** What the tests share: counting answers that are not as due, and looking at all that an object tells of itself. */
final class Due {
    static final int LOW = -1000000000;
    static final int BEYOND = LOW - 1;
    static final int NONE = LOW - 2;
    static final int STATE = LOW - 3;
    static final int FULL = LOW - 4;
    static final int KIND = LOW - 5;

    private static int asked = 0;
    private static int wrong = 0;

    private Due() {
    }

    static void due(String call, long got, long want) {
        asked++;
        if (got != want) {
            wrong++;
            System.out.println(call + " answered " + got + ", due is " + want);
        }
    }

    static void same(String what, String got, String want) {
        asked++;
        if (!got.equals(want)) {
            wrong++;
            System.out.println(what + " was " + want + ", and is " + got);
        }
    }

    static void end(String test) {
        System.out.println(test + ": " + asked + " asked, " + wrong + " wrong");
        if (wrong != 0) {
            System.exit(1);
        }
    }

    /** Bytes of a text go to the tape, at most eight at a time. */
    static void feedAll(GlassEyes x, String text) {
        for (int from = 0; from < text.length(); from += 8) {
            int n = Math.min(8, text.length() - from);
            long word = 0;
            for (int i = n - 1; i >= 0; i--) {
                word = word << 8 | (text.charAt(from + i) & 255);
            }
            x.feed(word, n);
        }
    }

    static int read(GlassEyes x, int use, String text) {
        feedAll(x, text);
        return x.text(use);
    }

    /** All that can be asked without changing anything (but what told() tells). */
    static String look(GlassEyes x) {
        StringBuilder all = new StringBuilder();
        for (int i = 0; i <= 9; i++) {
            all.append("count").append(i).append('=').append(x.count(i)).append(' ');
        }
        for (int e = 0; e < x.count(0); e++) {
            for (int what = 0; what <= 6; what++) {
                all.append("eye").append(e).append('.').append(what).append('=').append(x.ofEye(e, what)).append(' ');
            }
        }
        for (int w = 0; w < x.count(1); w++) {
            for (int what = 0; what <= 4; what++) {
                all.append("wearer").append(w).append('.').append(what).append('=').append(x.ofWearer(w, what)).append(' ');
            }
        }
        for (int i = 0; i < x.count(8); i++) {
            all.append("trace").append(i).append('=').append(x.trace(i)).append(' ');
        }
        for (int use = 0; use <= 1; use++) {
            for (int a = -2; a <= 12; a += 2) {
                all.append("law").append(use).append('=').append(x.law(use, a, 7 - a, 3 * a)).append(' ');
            }
        }
        for (int s = 0; s <= 3; s++) {
            all.append("sheet").append(s).append('=').append(x.judge(s)).append(' ');
        }
        all.append("dreads=").append(x.dreads(60));
        return all.toString();
    }

    /** An act answers an ERROR, and told() tells one more of it; that nothing else has changed is asked by Edge. */
    static void refused(GlassEyes x, String call, int error, IntSupplier act) {
        int k = LOW - error;
        int before = x.told(k);
        due(call, act.getAsInt(), error);
        due("told(" + k + ") behind " + call, x.told(k), before + 1);
    }
}
