import java.util.Random;

/** Runs of calls by chance (always the same ones) on the class and on the model, which must answer alike. */
public final class ModelTest {
    private static final int RUNS = 2500;
    private static final int ACTS = 220;
    /** An act is a few calls at most, so that no object is asked more than the 512 that the document allows. */
    private static final int MOST_CALLS = 480;
    private static final int[] WILD = {Integer.MIN_VALUE, Integer.MIN_VALUE + 1, -1000000001, -10, -2, -1, 0, 1, 10, 20, 41,
        60, 61, 100, 1024, 10000, Integer.MAX_VALUE - 1, Integer.MAX_VALUE};

    private final Random chance;
    private final GlassEyes x = new GlassEyes();
    private final Model y = new Model();
    private final StringBuilder log = new StringBuilder();
    private boolean alike = true;
    private int calls = 0;

    private ModelTest(long seed) {
        chance = new Random(seed);
    }

    public static void main(String[] args) {
        int wrong = 0;
        for (int run = 0; run < RUNS && wrong < 3; run++) {
            ModelTest test = new ModelTest(run);
            if (!test.runs()) {
                wrong++;
                System.out.println("run " + run + ":\n" + test.log);
            }
        }
        Due.due("runs that are not alike", wrong, 0);
        Due.end("ModelTest");
    }

    private boolean runs() {
        int eyes = chance.nextInt(9);
        for (int i = 0; i < eyes && alike; i++) {
            call(1);
        }
        int wearers = chance.nextInt(7);
        for (int i = 0; i < wearers && alike; i++) {
            call(4);
        }
        for (int i = 0; i < ACTS && alike && calls < MOST_CALLS; i++) {
            call(chance.nextInt(46));
        }
        return alike;
    }

    private int upTo(int most) {
        return most < 0 ? 0 : chance.nextInt(most + 1);
    }

    /** Mostly within what is allowed, at times at its edge or far from it. */
    private int some(int least, int most) {
        int how = chance.nextInt(60);
        if (how == 0) {
            return WILD[chance.nextInt(WILD.length)];
        }
        if (how == 1) {
            return chance.nextBoolean() ? least - 1 : most + 1;
        }
        if (how < 8) {
            return chance.nextBoolean() ? least : most;
        }
        return least + upTo(most - least);
    }

    private int anEye() {
        return some(0, y.count(0) - 1);
    }

    private int aWearer() {
        return some(0, y.count(1) - 1);
    }

    private int any() {
        return chance.nextInt(3) == 0 ? WILD[chance.nextInt(WILD.length)] : chance.nextInt(3) == 0 ? chance.nextInt() : chance.nextInt(41) - 20;
    }

    private void same(String name, int got, int want, long... args) {
        calls++;
        log.append(name).append(java.util.Arrays.toString(args)).append(" answered ").append(got);
        if (got != want) {
            log.append(", the model ").append(want);
            alike = false;
        }
        log.append('\n');
    }

    private void call(int which) {
        if (which < 10) {
            things(which);
        } else if (which < 16) {
            texts(which);
        } else if (which < 28) {
            thoughts(which);
        } else {
            others(which);
        }
    }

    private void things(int which) {
        int e = anEye();
        int w = aWearer();
        int a;
        int b;
        switch (which) {
            case 0: a = some(0, 9); b = some(0, 9); same("dread", x.dread(a, b), y.dread(a, b), a, b); break;
            case 1: a = some(0, 69); b = some(0, 9); same("eye", x.eye(a, b), y.eye(a, b), a, b); break;
            case 2: a = some(0, 6); same("ofEye", x.ofEye(e, a), y.ofEye(e, a), e, a); break;
            case 3:
                a = some(0, 1);
                b = a == 0 ? some(0, 9) : some(0, 9999);
                same("change", x.change(e, a, b), y.change(e, a, b), e, a, b);
                break;
            case 4: same("wearer", x.wearer(), y.wearer()); break;
            case 5: a = some(0, 4); same("ofWearer", x.ofWearer(w, a), y.ofWearer(w, a), w, a); break;
            case 6:
                a = some(0, 1);
                b = a == 0 ? some(0, 99) : some(0, 1023);
                same("set", x.set(w, a, b), y.set(w, a, b), w, a, b);
                break;
            case 7: a = some(0, 1); b = some(-1, y.count(0) - 1); same("wear", x.wear(w, a, b), y.wear(w, a, b), w, a, b); break;
            case 8: a = some(0, 69); same("become", x.become(e, a), y.become(e, a), e, a); break;
            default: a = some(0, 6); same("as", x.as(e, a), y.as(e, a), e, a); break;
        }
    }

    private void texts(int which) {
        int use = some(0, 1);
        if (which == 10 || which == 11) {
            String t = which == 10 ? text(use == 1 ? "lrh" : "bhm", 4) : spoilt(text(use == 1 ? "lrh" : "bhm", 7));
            if (t.length() > 50 && chance.nextInt(4) > 0) {
                t = "m".substring(use == 1 ? 1 : 0) + "1";
            }
            for (int from = 0; from < t.length(); from += 8) {
                long word = chance.nextLong();
                int n = Math.min(8, t.length() - from);
                for (int i = 0; i < n; i++) {
                    word = word & ~(255L << 8 * i) | (long) t.charAt(from + i) << 8 * i;
                }
                same("feed", x.feed(word, n), y.feed(word, n), word, n);
            }
            log.append("  text ").append(t).append('\n');
            same("text", x.text(use), y.text(use), use);
        } else if (which == 12) {
            long word = chance.nextLong();
            int n = some(1, 8);
            same("feed", x.feed(word, n), y.feed(word, n), word, n);
        } else if (which == 13) {
            same("text", x.text(use), y.text(use), use);
        } else if (which == 14) {
            int a = any();
            int b = any();
            int c = any();
            same("law", x.law(use, a, b, c), y.law(use, a, b, c), use, a, b, c);
        } else {
            int n = chance.nextInt(3) == 0 ? some(1, 60) : some(1, 4);
            same("hours", x.hours(n), y.hours(n), n);
        }
    }

    private String text(String names, int depth) {
        int how = depth <= 0 ? 4 + chance.nextInt(4) : chance.nextInt(10);
        if (how == 0) {
            return "!" + part(names, depth - 1);
        }
        if (how < 5 && depth > 0) {
            return part(names, depth - 1) + "|&<=>+-*/%".charAt(chance.nextInt(10)) + part(names, depth - 1);
        }
        return chance.nextInt(3) > 0 ? "" + names.charAt(chance.nextInt(3)) : "" + chance.nextInt(chance.nextInt(4) == 0 ? 10000 : 13);
    }

    private String part(String names, int depth) {
        return chance.nextInt(3) == 0 ? "(" + text(names, depth) + ")" : text(names, depth);
    }

    private String spoilt(String t) {
        String signs = "bhmlr0123456789!()|&<=>+-*/% x";
        StringBuilder s = new StringBuilder(t);
        for (int i = chance.nextInt(3); i > 0; i--) {
            int at = chance.nextInt(s.length() + 1);
            s.insert(at, signs.charAt(chance.nextInt(signs.length())));
            if (chance.nextBoolean()) {
                s.deleteCharAt(chance.nextInt(s.length()));
            }
        }
        return s.toString();
    }

    private void thoughts(int which) {
        int w = aWearer();
        int far = some(0, 60);
        int near = some(0, 30);
        int bit = some(0, 1);
        int t = some(0, 9);
        int a;
        switch (which) {
            case 16: a = some(1, 40); same("loose", x.loose(a), y.loose(a), a); break;
            case 17: a = some(0, 3); same("then", x.then(far, w, a), y.then(far, w, a), far, w, a); break;
            case 18: same("out", x.out(bit), y.out(bit), bit); break;
            case 19: a = some(0, 1); same("eyeFor", x.eyeFor(w, a, far, bit), y.eyeFor(w, a, far, bit), w, a, far, bit); break;
            case 20: same("watch", x.watch(w, t), y.watch(w, t), w, t); break;
            case 21: tellWhose(w); break;
            case 22: same("lend", x.lend(near), y.lend(near), near); break;
            case 23: same("blind", x.blind(far), y.blind(far), far); break;
            case 24: same("agree", x.agree(bit), y.agree(bit), bit); break;
            case 25: same("dreads", x.dreads(far), y.dreads(far), far); break;
            case 26: same("swap", x.swap(near), y.swap(near), near); break;
            default: same("odds", x.odds(w, t, far, bit), y.odds(w, t, far, bit), w, t, far, bit); break;
        }
    }

    /** Chance alone would hardly ever write a sheet that tells of an eye: here one is put down as an eye would show it. */
    private void tellWhose(int w) {
        int s = some(0, 3);
        int bit = some(0, 1);
        if (chance.nextBoolean() && w >= 0 && w < y.count(1) && y.count(0) > 0) {
            int n = chance.nextInt(9);
            same("sheet", x.sheet(s, 8, n), y.sheet(s, 8, n), s, 8, n);
            Model.City c = y.alone(w, chance.nextInt(y.count(0)));
            for (int i = 0; i < n; i++) {
                int thing = c.pass(chance.nextInt(5) == 0 ? null : c.wearers.get(w)).things.get(w);
                same("put", x.put(s, i, thing), y.put(s, i, thing), s, i, thing);
            }
        }
        same("whose", x.whose(s, w, bit), y.whose(s, w, bit), s, w, bit);
    }

    private void others(int which) {
        int s = some(0, 3);
        int a;
        int b;
        switch (which) {
            case 28: a = any(); same("seed", x.seed(a), y.seed(a), a); break;
            case 29: case 30: {
                int e = anEye();
                a = some(0, 3);
                b = any();
                same("voice", x.voice(e, a, b), y.voice(e, a, b), e, a, b);
                break;
            }
            case 31: a = some(0, 10); same("trace", x.trace(a), y.trace(a), a); break;
            case 32: case 33:
                a = chance.nextInt(10) == 0 ? some(0, 33) : 8 << chance.nextInt(3);
                b = chance.nextInt(3) == 0 ? some(0, 40) : some(0, 9);
                same("sheet", x.sheet(s, a, b), y.sheet(s, a, b), s, a, b);
                break;
            case 34: case 35: a = some(0, 9); b = chance.nextInt(3) == 0 ? any() : some(0, 10); same("put", x.put(s, a, b), y.put(s, a, b), s, a, b); break;
            case 36: move(s); break;
            case 37: same("bases", x.bases(s), y.bases(s), s); break;
            case 38: judge(s); break;
            case 39: if (chance.nextInt(3) == 0) { same("image", x.image(), y.image()); } break;
            case 40: if (chance.nextInt(4) == 0) { same("restore", x.restore(), y.restore()); } break;
            case 41: tell(); break;
            case 42: same("check", x.check(), y.check()); break;
            case 43: case 44: a = some(0, 9); same("count", x.count(a), y.count(a), a); break;
            default: a = some(1, 5); same("told", x.told(a), y.told(a), a); break;
        }
    }

    private void move(int s) {
        int o = some(0, 3);
        int i = some(0, 6);
        int j = some(0, 6);
        int n = some(0, 4);
        same("move", x.move(s, i, o, j, n), y.move(s, i, o, j, n), s, i, o, j, n);
    }

    private void judge(int s) {
        if (chance.nextBoolean()) {
            int n = some(y.count(0), y.count(0));
            same("sheet", x.sheet(s, 16, n), y.sheet(s, 16, n), s, 16, n);
            for (int i = 0; i < y.count(0); i++) {
                int v = chance.nextInt(12) == 0 ? 3 : y.ofEye(i, 5);
                same("put", x.put(s, i, v), y.put(s, i, v), s, i, v);
            }
        }
        same("judge", x.judge(s), y.judge(s), s);
    }

    private void tell() {
        int n = chance.nextInt(8);
        Model.City c = y.city.behind(y.waiting.size());
        for (int i = 0; i < n; i++) {
            c.pass(null);
            int v = chance.nextInt(12) == 0 ? any() : c.bearsOfAll();
            same("tell", x.tell(v), y.tell(v), v);
        }
    }
}
