import java.lang.reflect.InvocationTargetException;
import java.lang.reflect.Method;
import java.util.ArrayList;
import java.util.Arrays;
import java.util.HashMap;
import java.util.HashSet;
import java.util.List;
import java.util.Map;
import java.util.Set;
import java.util.regex.Matcher;
import java.util.regex.Pattern;

/**
 * A sentence of the document that names an edge, and a run of calls on a new object that would not answer so if the
 * sentence did not hold. A run is written as calls with blanks between them:
 *
 * <pre>
 *   dread(9,5)=9     answers 9
 *   dread(10,5)=BEYOND  answers the ERROR, which told() tells, and changes nothing else
 *   hours(60)        what it answers is not asked here
 *   166*hours(60)    so often
 *   say'b+h'         these bytes come to THE TAPE
 * </pre>
 *
 * Behind each call that is refused, and behind each that only asks, the run up to there is made on two new objects, one goes
 * through the call and the other doesn't, and both are asked for what they hold. Of a SHEET only the first eight numbers are
 * seen, as far as they are BASES, and of the numbers that wait only what check() tells: more would be above 512 calls.
 */
final class Edge {
    /** Three EYES, two WEARERS and some of everything else (SHEET 3 is missing), the IMAGE not as it is now. */
    static final String SOME = """
        eye(4,3)=0 eye(17,5)=1 eye(62,8)=2 wearer()=0 wearer()=1 wear(0,0,0)=-1 wear(0,1,2)=-1 wear(1,0,1)=-1 dread(3,7)=3
        say'b*2+h' text(0)=1 say'l<r' text(1)=1 seed(99)=1 sheet(0,8,3)=1 put(0,0,4)=1 put(0,1,5)=1 put(0,2,6)=1 sheet(1,16,2)=1
        put(1,1,7)=1 sheet(2,16,5)=1 tell(38)=1 say'1+' voice(0,3,1) image()=1 hours(2) dread(3,3)=7 change(1,0,6)=5 seed(98)=99
        tell(41)=2 tell(0)=3 say'b*3'
        """;
    static final String EIGHT = "eye(30,0)=0 eye(30,1)=1 eye(30,2)=2 eye(30,3)=3 eye(30,4)=4 eye(30,5)=5 eye(30,6)=6 eye(30,7)=7";
    static final String SIX = "wearer()=0 wearer()=1 wearer()=2 wearer()=3 wearer()=4 wearer()=5";
    static final String LAST_HOUR = "166*hours(60)=0 hours(39)=0";

    private static final int MOST_CALLS = 512;
    private static final Pattern CALL = Pattern.compile("(?:(\\d+)\\*)?(\\w+)\\(([^)]*)\\)(?:=(\\S+))?");
    private static final Pattern SAY = Pattern.compile("say'([^']*)'");
    private static final Set<String> ASKING = new HashSet<>(Arrays.asList("ofEye", "ofWearer", "as", "law", "then", "out", "eyeFor",
        "watch", "whose", "lend", "blind", "agree", "dreads", "swap", "odds", "trace", "judge", "count", "told"));
    private static final Map<String, Integer> ERRORS = new HashMap<>();
    private static final Map<String, Method> FACE = new HashMap<>();

    static {
        ERRORS.put("BEYOND", Due.BEYOND);
        ERRORS.put("NONE", Due.NONE);
        ERRORS.put("STATE", Due.STATE);
        ERRORS.put("FULL", Due.FULL);
        ERRORS.put("KIND", Due.KIND);
        for (Method m : GlassEyes.class.getMethods()) {
            if (m.getDeclaringClass() == GlassEyes.class) {
                FACE.put(m.getName(), m);
            }
        }
    }

    /** A call as it is written, with what is due (null: not asked). */
    private static final class Call {
        final String name;
        final long[] in;
        final String due;

        Call(String name, long[] in, String due) {
            this.name = name;
            this.in = in;
            this.due = due;
        }

        boolean changesNothing() {
            return ERRORS.containsKey(due) || (due != null && ASKING.contains(name));
        }

        public String toString() {
            return name + Arrays.toString(in);
        }
    }

    /** An object that is asked no more than the document allows. */
    private static final class One {
        private final GlassEyes x = new GlassEyes();
        private int calls = 0;

        int ask(String name, long... in) {
            calls++;
            if (calls > MOST_CALLS) {
                throw new IllegalStateException("more than " + MOST_CALLS + " calls: " + name);
            }
            Method m = FACE.get(name);
            Class<?>[] types = m.getParameterTypes();
            Object[] args = new Object[in.length];
            for (int i = 0; i < in.length; i++) {
                args[i] = types[i] == long.class ? (Object) in[i] : (Object) (int) in[i];
            }
            try {
                return (int) m.invoke(x, args);
            } catch (IllegalAccessException | InvocationTargetException e) {
                throw new IllegalStateException(name + Arrays.toString(in), e);
            }
        }
    }

    private Edge() {
    }

    static void edge(String sentence, String... runs) {
        List<Call> calls = read(String.join(" ", runs));
        One one = new One();
        for (int i = 0; i < calls.size(); i++) {
            Call c = calls.get(i);
            int got = one.ask(c.name, c.in);
            if (c.due != null) {
                Due.due(sentence + "\n    " + c + " (call " + i + ")", got, number(c.due));
            }
            if (c.changesNothing()) {
                changesNothing(sentence, calls.subList(0, i), c);
            }
        }
    }

    private static List<Call> read(String run) {
        List<Call> calls = new ArrayList<>();
        for (String written : run.trim().split("\\s+")) {
            Matcher say = SAY.matcher(written);
            Matcher call = CALL.matcher(written);
            if (say.matches()) {
                say(calls, say.group(1));
            } else if (call.matches() && FACE.containsKey(call.group(2))) {
                int times = call.group(1) == null ? 1 : Integer.parseInt(call.group(1));
                for (int i = 0; i < times; i++) {
                    calls.add(new Call(call.group(2), numbers(call.group(3)), call.group(4)));
                }
            } else {
                throw new IllegalArgumentException("no call: " + written);
            }
        }
        return calls;
    }

    private static void say(List<Call> calls, String text) {
        for (int from = 0; from < text.length(); from += 8) {
            int n = Math.min(8, text.length() - from);
            long word = 0;
            for (int i = n - 1; i >= 0; i--) {
                word = word << 8 | text.charAt(from + i) & 255;
            }
            calls.add(new Call("feed", new long[] {word, n}, null));
        }
    }

    private static long[] numbers(String written) {
        if (written.isEmpty()) {
            return new long[0];
        }
        return Arrays.stream(written.split(",")).mapToLong(Edge::number).toArray();
    }

    private static long number(String written) {
        if (ERRORS.containsKey(written)) {
            return ERRORS.get(written);
        }
        switch (written) {
            case "MIN":
                return Integer.MIN_VALUE;
            case "MAX":
                return Integer.MAX_VALUE;
            default:
                return Long.decode(written);
        }
    }

    private static One made(List<Call> ahead) {
        One one = new One();
        for (Call c : ahead) {
            one.ask(c.name, c.in);
        }
        return one;
    }

    private static void changesNothing(String sentence, List<Call> ahead, Call c) {
        One without = made(ahead);
        One with = made(ahead);
        with.ask(c.name, c.in);
        for (int k = 1; k <= 5; k++) {
            int more = ERRORS.containsKey(c.due) && ERRORS.get(c.due) == Due.LOW - k ? 1 : 0;
            Due.due(sentence + "\n    told(" + k + ") behind " + c, with.ask("told", k), without.ask("told", k) + more);
        }
        Due.same(sentence + "\n    all behind " + c, all(with), all(without));
    }

    /** What an object holds, as far as it tells it; it is changed by that, so it is of no use behind this. */
    private static String all(One x) {
        StringBuilder all = new StringBuilder();
        look(x, all);
        rows(x, all, 0);
        for (int thing = 0; thing < 10; thing++) {
            add(x, all, "dread", thing, 0);
        }
        add(x, all, "restore");
        look(x, all);
        rows(x, all, 1);
        add(x, all, "image");
        for (int eyes = x.ask("count", 0); eyes < 8; eyes++) {
            x.ask("eye", 30, 0);
        }
        for (int sheet = 0; sheet < 4; sheet++) {
            sheet(x, all, sheet);
        }
        return all.toString();
    }

    private static int add(One x, StringBuilder all, String name, long... in) {
        int got = x.ask(name, in);
        all.append(name).append(Arrays.toString(in)).append('=').append(got).append(' ');
        return got;
    }

    private static void look(One x, StringBuilder all) {
        int eyes = add(x, all, "count", 0);
        int wearers = add(x, all, "count", 1);
        int bodies = add(x, all, "count", 8);
        int[] others = {2, 3, 4, 5, 6, 7, 9};
        for (int what : others) {
            add(x, all, "count", what);
        }
        for (int eye = 0; eye < eyes; eye++) {
            for (int what = 0; what < 5; what++) {
                add(x, all, "ofEye", eye, what);
            }
        }
        for (int wearer = 0; wearer < wearers; wearer++) {
            for (int what = 0; what < 5; what++) {
                add(x, all, "ofWearer", wearer, what);
            }
        }
        for (int i = 0; i < bodies; i++) {
            add(x, all, "trace", i);
        }
        for (int use = 0; use < 2; use++) {
            add(x, all, "law", use, 3, 4, 5);
            add(x, all, "law", use, 2, 1, 0);
        }
        add(x, all, "dreads", 60);
    }

    /** The numbers that wait and THE TAPE, by what they come to. */
    private static void rows(One x, StringBuilder all, int use) {
        add(x, all, "check");
        add(x, all, "text", use);
        add(x, all, "law", use, 3, 4, 5);
    }

    /** Which numbers (as far as they are BASES, of eight EYES), how many, of which bits. */
    private static void sheet(One x, StringBuilder all, int sheet) {
        int bases = add(x, all, "bases", sheet);
        for (int eye = 0; eye < bases; eye++) {
            add(x, all, "ofEye", eye, 2);
        }
        int[] sizes = {1, 2, 3, 5, 40};
        for (int n : sizes) {
            add(x, all, "move", sheet, 0, sheet, 0, n);
        }
        for (int other = 0; other < sheet; other++) {
            add(x, all, "move", sheet, 0, other, 0, 0);
        }
        int[] tooLong = {256, 65536};
        for (int v : tooLong) {
            add(x, all, "put", sheet, 0, v);
            add(x, all, "bases", sheet);
        }
    }
}
