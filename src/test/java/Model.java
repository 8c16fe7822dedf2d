import java.util.ArrayList;
import java.util.List;

/**
 * The document told a second time, as plainly as can be and in other ways than the class does it: eyes and wearers are
 * objects, a thought is a deep copy, a text is kept as its letters and split at its weakest sign, faults come from a
 * small machine that looks at one byte at a time, and bodies are looked up in a table.
 */
final class Model {
    static final int LOW = -1000000000;
    static final int[] ABOVE = {-1, 0, 0, 0, 1, 2, 3};

    static final class Eye {
        int kind;
        int m;
        int base;
        int worn;
    }

    static final class Wearer {
        Eye[] sides = new Eye[2];
        int bears = 20;
        boolean[] seen = new boolean[10];
    }

    static final class City {
        List<Eye> eyes = new ArrayList<>();
        List<Wearer> wearers = new ArrayList<>();
        int[] dread = {0, 1, 2, 3, 4, 5, 6, 7, 8, 9};
        int hour = 0;
        int z = 1;
        String[] texts = {"b+h", "h%2"};

        City copy() {
            City c = new City();
            for (Eye e : eyes) {
                Eye d = new Eye();
                d.kind = e.kind;
                d.m = e.m;
                d.base = e.base;
                d.worn = e.worn;
                c.eyes.add(d);
            }
            for (Wearer w : wearers) {
                Wearer v = new Wearer();
                for (int s = 0; s < 2; s++) {
                    v.sides[s] = w.sides[s] == null ? null : c.eyes.get(eyes.indexOf(w.sides[s]));
                }
                v.bears = w.bears;
                v.seen = w.seen.clone();
                c.wearers.add(v);
            }
            c.dread = dread.clone();
            c.hour = hour;
            c.z = z;
            c.texts = texts.clone();
            return c;
        }

        int law(int use, int a, int b, int c) {
            int v = worth(texts[use], use == 0 ? "bhm" : "lrh", new int[] {a, b, c});
            int most = use == 0 ? 99 : 1;
            return v < 0 ? 0 : v > most ? most : v;
        }

        int shows(Eye e) {
            int v = law(0, e.base, hour % 12, e.m);
            int[] all = {v, v + e.m, 9 - v % 10, e.base, v + e.m + e.worn % 3, hour % 4 == 0 ? e.base : 9 - v % 10, e.base + hour % 2};
            return all[e.kind] % 10;
        }

        int heavy(Eye e) {
            int[] all = {1, 1, 2, 1, 0, hour % 4 == 0 ? 0 : 2, 1};
            return all[e.kind];
        }

        Eye heeded(Wearer w) {
            if (w.sides[0] != null && w.sides[1] != null) {
                return w.sides[law(1, shows(w.sides[0]), shows(w.sides[1]), hour % 12)];
            }
            return w.sides[0] != null ? w.sides[0] : w.sides[1];
        }

        void wear(Wearer w, int side, Eye e) {
            for (Wearer v : wearers) {
                for (int s = 0; s < 2; s++) {
                    if (e != null && v.sides[s] == e) {
                        v.sides[s] = null;
                    }
                }
            }
            w.sides[side] = e;
        }

        /** What the hour came to: things heeded by each (10: nothing), who took one out, what was borne. */
        Hour pass(Wearer spared) {
            Hour h = new Hour();
            for (Wearer w : wearers) {
                Eye e = heeded(w);
                h.things.add(e == null ? 10 : shows(e));
                if (e == null) {
                    w.bears = w.bears == 99 ? 99 : w.bears + 1;
                    continue;
                }
                int thing = shows(e);
                w.seen[thing] = true;
                int before = w.bears;
                if (w != spared) {
                    w.bears = Math.max(0, w.bears - heavy(e) * dread[thing]);
                }
                h.borne += before - w.bears;
                for (Eye worn : w.sides) {
                    if (worn != null && worn.worn < 9999) {
                        worn.worn++;
                    }
                }
                if (w != spared && w.bears == 0) {
                    w.sides[w.sides[0] == e ? 0 : 1] = null;
                    w.bears = 20;
                    h.outs.add(wearers.indexOf(w));
                }
            }
            hour++;
            return h;
        }

        City behind(int n) {
            City c = copy();
            for (int i = 0; i < n; i++) {
                c.pass(null);
            }
            return c;
        }

        int seenByAnybody() {
            int set = 0;
            for (Wearer w : wearers) {
                set |= set(w.seen);
            }
            return set;
        }

        int bearsOfAll() {
            return wearers.stream().mapToInt(w -> w.bears).sum();
        }
    }

    static final class Hour {
        List<Integer> things = new ArrayList<>();
        List<Integer> outs = new ArrayList<>();
        int borne = 0;
    }

    static int set(boolean[] in) {
        int set = 0;
        for (int i = 0; i < in.length; i++) {
            set += in[i] ? 1 << i : 0;
        }
        return set;
    }

    // ---- texts

    /** Splits at the weakest sign outside brackets; where signs of one strength stand, at the last. */
    static int worth(String t, String names, int[] values) {
        String[] strengths = {"|", "&", "<=>", "+-", "*/%"};
        for (String signs : strengths) {
            int depth = 0;
            for (int i = t.length() - 1; i > 0; i--) {
                char c = t.charAt(i);
                depth += c == ')' ? 1 : c == '(' ? -1 : 0;
                if (depth == 0 && signs.indexOf(c) >= 0) {
                    long a = worth(t.substring(0, i), names, values);
                    long b = worth(t.substring(i + 1), names, values);
                    return joined(c, a, b);
                }
            }
        }
        char c = t.charAt(0);
        if (c == '!') {
            return worth(t.substring(1), names, values) == 0 ? 1 : 0;
        }
        if (c == '(') {
            return worth(t.substring(1, t.length() - 1), names, values);
        }
        return names.indexOf(c) >= 0 ? values[names.indexOf(c)] : Integer.parseInt(t);
    }

    static int joined(char c, long a, long b) {
        switch (c) {
            case '|': return (a != 0 ? 1 : 0) | (b != 0 ? 1 : 0);
            case '&': return (a != 0 ? 1 : 0) & (b != 0 ? 1 : 0);
            case '<': return a < b ? 1 : 0;
            case '=': return a == b ? 1 : 0;
            case '>': return a > b ? 1 : 0;
            case '+': return (int) (a + b);
            case '-': return (int) (a - b);
            case '*': return (int) (a * b);
            case '/': return b == 0 ? 0 : (int) (a / b);
            default: return b == 0 ? 0 : (int) (a % b);
        }
    }

    /** -1: it is a text. Open brackets are '(' or, once a comparison stands in them, '['; '!' waits for its part. */
    static int fault(String t, String names) {
        StringBuilder open = new StringBuilder("(");
        boolean operand = true;
        int digits = 0;
        for (int i = 0; i < t.length(); i++) {
            char c = t.charAt(i);
            boolean digit = c >= '0' && c <= '9';
            if (digits > 0 && digits < 4 && digit) {
                digits++;
                continue;
            }
            digits = 0;
            char inner = open.charAt(open.length() - 1);
            if (operand) {
                if (c == '!' || c == '(') {
                    if (open.length() > 5) {
                        return i;
                    }
                    open.append(c);
                } else if (digit || names.indexOf(c) >= 0) {
                    operand = false;
                    digits = digit ? 1 : 0;
                    closeNots(open);
                } else {
                    return i;
                }
            } else if (c == ')' && open.length() > 1) {
                open.setLength(open.length() - 1);
                closeNots(open);
            } else if ("<=>".indexOf(c) >= 0 && inner == '(') {
                open.setCharAt(open.length() - 1, '[');
                operand = true;
            } else if ("&|".indexOf(c) >= 0) {
                open.setCharAt(open.length() - 1, '(');
                operand = true;
            } else if ("+-*/%".indexOf(c) >= 0) {
                operand = true;
            } else {
                return i;
            }
        }
        return operand || open.length() > 1 ? t.length() : -1;
    }

    static void closeNots(StringBuilder open) {
        while (open.charAt(open.length() - 1) == '!') {
            open.setLength(open.length() - 1);
        }
    }

    // ---- voices

    static final int[][] BODIES = { // by KIND: sees, looks, blinks, tells; 0: none of its own
        {10, 11, 12, 13}, {20, 0, 0, 0}, {0, 30, 0, 0}, {0, 0, 40, 0}, {0, 0, 0, 50}, {0, 60, 0, 0}, {0, 0, 70, 71}};

    int speak(int kind, int from, int act, int n, int m, int x) {
        int k = from;
        while (BODIES[k][act] == 0) {
            k = ABOVE[k];
        }
        int body = BODIES[k][act];
        int up = ABOVE[k];
        if (trace.size() < 40) {
            trace.add(body);
        }
        switch (body) {
            case 10: return x + n;
            case 11: return speak(kind, kind, 0, n, m, x) * 2;
            case 12: return x - m;
            case 13: {
                int left = speak(kind, kind, 1, n, m, x);
                return left ^ speak(kind, kind, 2, n, m, x);
            }
            case 20: return speak(kind, up, 0, n, m, x) * 3;
            case 30: {
                int left = speak(kind, up, 1, n, m, x);
                return left - speak(kind, kind, 2, n, m, 1);
            }
            case 40: return -speak(kind, up, 2, n, m, x);
            case 50: {
                int left = speak(kind, up, 3, n, m, x);
                return left - speak(kind, kind, 0, n, m, 2);
            }
            case 60: return speak(kind, up, 1, n, m, x + 1);
            case 70: return speak(kind, up, 2, n, m, x) ^ n;
            default: {
                int left = speak(kind, kind, 1, n, m, x);
                return left - speak(kind, up, 3, n, m, x);
            }
        }
    }

    // ---- the face

    City city = new City();
    City kept = null;
    String tape = "";
    String keptTape = "";
    List<Integer> waiting = new ArrayList<>();
    List<Integer> keptWaiting = new ArrayList<>();
    List<Integer> trace = new ArrayList<>();
    long[][] sheets = new long[4][];
    int[] bits = new int[4];
    int images = 0;
    int[] errors = new int[6];

    int error(int k) {
        errors[k]++;
        return LOW - k;
    }

    boolean in(int v, int least, int most) {
        return least <= v && v <= most;
    }

    boolean isEye(int e) {
        return in(e, 0, city.eyes.size() - 1);
    }

    boolean isWearer(int w) {
        return in(w, 0, city.wearers.size() - 1);
    }

    int numberOf(City c, Eye e) {
        return e == null ? -1 : c.eyes.indexOf(e);
    }

    int dread(int thing, int v) {
        if (!in(thing, 0, 9) || !in(v, 0, 9)) {
            return error(1);
        }
        int was = city.dread[thing];
        city.dread[thing] = v;
        return was;
    }

    int eye(int km, int base) {
        if (!in(km, 0, 69) || !in(base, 0, 9)) {
            return error(1);
        }
        if (city.eyes.size() == 8) {
            return error(4);
        }
        Eye e = new Eye();
        e.kind = km / 10;
        e.m = km % 10;
        e.base = base;
        city.eyes.add(e);
        return city.eyes.size() - 1;
    }

    int ofEye(int eye, int what) {
        if (!isEye(eye) || !in(what, 0, 6)) {
            return error(1);
        }
        Eye e = city.eyes.get(eye);
        int by = -1;
        for (int w = 0; w < city.wearers.size(); w++) {
            for (int s = 0; s < 2; s++) {
                by = city.wearers.get(w).sides[s] == e ? 10 * w + s : by;
            }
        }
        return new int[] {e.kind, e.m, e.base, e.worn, by, city.shows(e), city.heavy(e)}[what];
    }

    int change(int eye, int what, int v) {
        if (!isEye(eye) || !in(what, 0, 1) || !in(v, 0, new int[] {9, 9999}[what])) {
            return error(1);
        }
        Eye e = city.eyes.get(eye);
        int was = what == 0 ? e.base : e.worn;
        if (what == 0) {
            e.base = v;
        } else {
            e.worn = v;
        }
        return was;
    }

    int wearer() {
        if (city.wearers.size() == 6) {
            return error(4);
        }
        city.wearers.add(new Wearer());
        return city.wearers.size() - 1;
    }

    int ofWearer(City c, int wearer, int what) {
        Wearer w = c.wearers.get(wearer);
        return new int[] {numberOf(c, w.sides[0]), numberOf(c, w.sides[1]), w.bears, set(w.seen), numberOf(c, c.heeded(w))}[what];
    }

    int ofWearer(int wearer, int what) {
        return isWearer(wearer) && in(what, 0, 4) ? ofWearer(city, wearer, what) : error(1);
    }

    int set(int wearer, int what, int v) {
        if (!isWearer(wearer) || !in(what, 0, 1) || !in(v, 0, new int[] {99, 1023}[what])) {
            return error(1);
        }
        Wearer w = city.wearers.get(wearer);
        int was = what == 0 ? w.bears : set(w.seen);
        if (what == 0) {
            w.bears = v;
        } else {
            for (int t = 0; t < 10; t++) {
                w.seen[t] = (v >> t & 1) == 1;
            }
        }
        return was;
    }

    int wear(int wearer, int side, int eye) {
        if (!isWearer(wearer) || !in(side, 0, 1) || !in(eye, -1, city.eyes.size() - 1)) {
            return error(1);
        }
        Wearer w = city.wearers.get(wearer);
        int was = numberOf(city, w.sides[side]);
        city.wear(w, side, eye < 0 ? null : city.eyes.get(eye));
        return was;
    }

    int become(int eye, int km) {
        if (!isEye(eye) || !in(km, 0, 69)) {
            return error(1);
        }
        Eye e = city.eyes.get(eye);
        int was = e.kind;
        e.kind = km / 10;
        e.m = km % 10;
        return was;
    }

    int as(int eye, int kind) {
        if (!isEye(eye) || !in(kind, 0, 6)) {
            return error(1);
        }
        for (int k = city.eyes.get(eye).kind; k >= 0; k = ABOVE[k]) {
            if (k == kind) {
                return city.eyes.get(eye).m;
            }
        }
        return error(5);
    }

    int feed(long word, int n) {
        if (!in(n, 1, 8)) {
            return error(1);
        }
        if (tape.length() + n > 50) {
            return error(4);
        }
        for (int i = 0; i < n; i++) {
            tape += (char) (word & 255);
            word >>= 8;
        }
        return tape.length();
    }

    int text(int use) {
        if (!in(use, 0, 1)) {
            return error(1);
        }
        String t = tape;
        tape = "";
        int fault = fault(t, use == 0 ? "bhm" : "lrh");
        if (fault >= 0) {
            return -10 - fault;
        }
        city.texts[use] = t;
        return 1;
    }

    int law(int use, int a, int b, int c) {
        return in(use, 0, 1) ? city.law(use, a, b, c) : error(1);
    }

    int hours(int n) {
        return in(n, 1, 60) ? pass(n, false) : error(1);
    }

    int loose(int n) {
        return in(n, 1, 40) ? pass(n, true) : error(1);
    }

    int pass(int n, boolean draws) {
        if (city.hour + n > 9999) {
            return error(3);
        }
        int outs = 0;
        for (int i = 0; i < n; i++) {
            if (draws) {
                city.z = city.z * 1103515245 + 12345;
                int drawn = city.z >>> 8;
                if (!city.eyes.isEmpty()) {
                    city.eyes.get(drawn % city.eyes.size()).base = (drawn / 8) % 10;
                }
            }
            outs += city.pass(null).outs.size();
        }
        return outs;
    }

    int then(int n, int wearer, int what) {
        return in(n, 0, 60) && isWearer(wearer) && in(what, 0, 3) ? ofWearer(city.behind(n), wearer, what) : error(1);
    }

    int out(int what) {
        if (!in(what, 0, 1)) {
            return error(1);
        }
        City c = city.copy();
        for (int n = 1; n <= 60; n++) {
            Hour h = c.pass(null);
            if (!h.outs.isEmpty()) {
                return what == 0 ? n : h.outs.get(0);
            }
        }
        return error(2);
    }

    int eyeFor(int wearer, int side, int n, int what) {
        if (!isWearer(wearer) || !in(side, 0, 1) || !in(n, 0, 60) || !in(what, 0, 1)) {
            return error(1);
        }
        int best = -1;
        int most = -1;
        for (int e = city.eyes.size() - 1; e >= 0; e--) {
            City c = city.copy();
            c.wear(c.wearers.get(wearer), side, c.eyes.get(e));
            int bears = c.behind(n).wearers.get(wearer).bears;
            if (bears >= most) {
                most = bears;
                best = e;
            }
        }
        return best < 0 ? error(2) : what == 0 ? best : most;
    }

    int watch(int wearer, int thing) {
        if (!isWearer(wearer) || !in(thing, 0, 9)) {
            return error(1);
        }
        City c = city.copy();
        for (int n = 1; n <= 60; n++) {
            if (c.pass(null).things.get(wearer) == thing) {
                return n;
            }
        }
        return error(2);
    }

    City alone(int wearer, int eye) {
        City c = city.copy();
        Wearer w = c.wearers.get(wearer);
        c.wear(w, 0, c.eyes.get(eye));
        c.wear(w, 1, null);
        return c;
    }

    int whose(int sheet, int wearer, int what) {
        if (!in(sheet, 0, 3) || !isWearer(wearer) || !in(what, 0, 1)) {
            return error(1);
        }
        if (sheets[sheet] == null) {
            return error(2);
        }
        int set = 0;
        int many = 0;
        for (int e = 0; e < city.eyes.size(); e++) {
            City c = alone(wearer, e);
            boolean so = true;
            for (long v : sheets[sheet]) {
                so &= c.pass(c.wearers.get(wearer)).things.get(wearer) == v;
            }
            set += so ? 1 << e : 0;
            many += so ? 1 : 0;
        }
        return what == 0 ? set : many;
    }

    int lend(int n) {
        if (!in(n, 0, 30)) {
            return error(1);
        }
        int best = -1;
        int most = -1;
        for (int code = 0; code < 800; code++) {
            int e = code / 100;
            int w = code / 10 % 10;
            int s = code % 10;
            if (e >= city.eyes.size() || w >= city.wearers.size() || s > 1) {
                continue;
            }
            boolean worn = false;
            for (Wearer v : city.wearers) {
                worn |= v.sides[0] == city.eyes.get(e) || v.sides[1] == city.eyes.get(e);
            }
            if (worn || city.wearers.get(w).sides[s] != null) {
                continue;
            }
            City c = city.copy();
            c.wear(c.wearers.get(w), s, c.eyes.get(e));
            int things = Integer.bitCount(c.behind(n).seenByAnybody());
            if (things > most) {
                most = things;
                best = code;
            }
        }
        return best;
    }

    int blind(int n) {
        return in(n, 0, 60) ? 1023 - city.behind(n).seenByAnybody() : error(1);
    }

    int agree(int what) {
        if (!in(what, 0, 1)) {
            return error(1);
        }
        City c = city.copy();
        int best = -1;
        int most = 0;
        for (int n = 0; n < 12; n++) {
            int[] by = new int[11];
            for (int thing : c.pass(null).things) {
                by[thing]++;
            }
            for (int thing = 0; thing < 10; thing++) {
                if (by[thing] > most) {
                    most = by[thing];
                    best = n;
                }
            }
        }
        return most == 0 ? error(2) : what == 0 ? best : most;
    }

    int dreads(int n) {
        if (!in(n, 0, 60)) {
            return error(1);
        }
        City c = city.copy();
        int sum = 0;
        for (int i = 0; i < n; i++) {
            sum += c.pass(null).borne;
        }
        return sum;
    }

    int swap(int n) {
        if (!in(n, 0, 30)) {
            return error(1);
        }
        int best = -1;
        int most = Integer.bitCount(city.behind(n).seenByAnybody());
        for (int code = 0; code < 100; code++) {
            int i = code / 10;
            int j = code % 10;
            if (i >= j || j >= city.wearers.size()) {
                continue;
            }
            City c = city.copy();
            Eye[] sides = c.wearers.get(i).sides;
            c.wearers.get(i).sides = c.wearers.get(j).sides;
            c.wearers.get(j).sides = sides;
            int things = Integer.bitCount(c.behind(n).seenByAnybody());
            if (things > most) {
                most = things;
                best = code;
            }
        }
        return best;
    }

    int odds(int wearer, int thing, int n, int part) {
        if (!isWearer(wearer) || !in(thing, 0, 9) || !in(n, 0, 60) || !in(part, 0, 1)) {
            return error(1);
        }
        if (city.eyes.isEmpty()) {
            return error(2);
        }
        int above = 0;
        int below = city.eyes.size();
        for (int e = 0; e < below; e++) {
            above += alone(wearer, e).behind(n).wearers.get(wearer).seen[thing] ? 1 : 0;
        }
        for (int d = 2; d <= below; d++) {
            while (above % d == 0 && below % d == 0) {
                above /= d;
                below /= d;
            }
        }
        return part == 0 ? above : below;
    }

    int seed(int v) {
        int was = city.z;
        city.z = v;
        return was;
    }

    int voice(int eye, int act, int x) {
        if (!isEye(eye) || !in(act, 0, 3)) {
            return error(1);
        }
        trace.clear();
        Eye e = city.eyes.get(eye);
        return speak(e.kind, e.kind, act, eye, e.m, x);
    }

    int trace(int i) {
        return in(i, 0, trace.size() - 1) ? trace.get(i) : error(2);
    }

    int sheet(int sheet, int b, int n) {
        if (!in(sheet, 0, 3) || !List.of(0, 8, 16, 32).contains(b)) {
            return error(1);
        }
        if (b != 0 && n < 0) {
            return error(3);
        }
        if (b != 0 && n > 40) {
            return error(1);
        }
        sheets[sheet] = b == 0 ? null : new long[n];
        bits[sheet] = b;
        return 1;
    }

    int put(int sheet, int i, int v) {
        if (!in(sheet, 0, 3)) {
            return error(1);
        }
        if (sheets[sheet] == null) {
            return error(2);
        }
        if (!in(i, 0, sheets[sheet].length - 1)) {
            return error(1);
        }
        sheets[sheet][i] = v & (1L << bits[sheet]) - 1;
        return 1;
    }

    int move(int sheet, int i, int other, int j, int n) {
        if (!in(sheet, 0, 3) || !in(other, 0, 3)) {
            return error(1);
        }
        if (sheets[sheet] == null || sheets[other] == null) {
            return error(2);
        }
        if (bits[sheet] != bits[other]) {
            return error(5);
        }
        if (n < 0 || i < 0 || j < 0 || (long) i + n > sheets[sheet].length || (long) j + n > sheets[other].length) {
            return error(1);
        }
        long[] were = sheets[sheet].clone();
        for (int k = 0; k < n; k++) {
            sheets[other][j + k] = were[i + k];
        }
        return n;
    }

    int bases(int sheet) {
        if (!in(sheet, 0, 3)) {
            return error(1);
        }
        if (sheets[sheet] == null) {
            return error(2);
        }
        int n = 0;
        while (n < sheets[sheet].length && n < city.eyes.size() && sheets[sheet][n] <= 9) {
            city.eyes.get(n).base = (int) sheets[sheet][n];
            n++;
        }
        return n;
    }

    int judge(int sheet) {
        if (!in(sheet, 0, 3)) {
            return error(1);
        }
        if (sheets[sheet] == null) {
            return error(2);
        }
        for (int i = 0; i < Math.max(sheets[sheet].length, city.eyes.size()); i++) {
            if (i >= sheets[sheet].length || i >= city.eyes.size() || sheets[sheet][i] != city.shows(city.eyes.get(i))) {
                return i;
            }
        }
        return -1;
    }

    int image() {
        kept = city.copy();
        keptTape = tape;
        keptWaiting = new ArrayList<>(waiting);
        return ++images;
    }

    int restore() {
        if (kept == null) {
            return error(2);
        }
        city = kept.copy();
        tape = keptTape;
        waiting = new ArrayList<>(keptWaiting);
        return city.hour;
    }

    int tell(int v) {
        if (waiting.size() == 20) {
            return error(4);
        }
        waiting.add(v);
        return waiting.size();
    }

    int check() {
        List<Integer> numbers = waiting;
        waiting = new ArrayList<>();
        for (int i = 0; i < numbers.size(); i++) {
            if (city.behind(i + 1).bearsOfAll() != numbers.get(i)) {
                return 1 + i;
            }
        }
        return 0;
    }

    int count(int what) {
        if (!in(what, 0, 9)) {
            return error(1);
        }
        int worn = 0;
        for (Wearer w : city.wearers) {
            for (Eye e : w.sides) {
                worn += e == null ? 0 : 1 << city.eyes.indexOf(e);
            }
        }
        return new int[] {city.eyes.size(), city.wearers.size(), city.hour, city.bearsOfAll(), city.seenByAnybody(), worn,
            tape.length(), waiting.size(), trace.size(), city.z}[what];
    }

    int told(int k) {
        return in(k, 1, 5) ? errors[k] : error(1);
    }
}
