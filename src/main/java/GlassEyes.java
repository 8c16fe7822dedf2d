/** Glass eyes that see for the donor, those who wear them, and the hours that go by; ../shared/DOC.md tells the rules. */
public final class GlassEyes {
    private static final int LOW = -1000000000;
    private static final int BEYOND = 1;
    private static final int NONE = 2;
    private static final int STATE = 3;
    private static final int FULL = 4;
    private static final int KIND = 5;
    private static final int ERRORS = 5;

    private static final int THINGS = 10;
    private static final int ALL_THINGS = 1023;
    private static final int KINDS = 7;
    private static final int MOST_EYES = 8;
    private static final int MOST_WEARERS = 6;
    private static final int MOST_BEARS = 99;
    private static final int FRESH_BEARS = 20;
    private static final int LAST_HOUR = 9999;
    private static final int FAR = 60;
    private static final int NEAR = 30;
    private static final int MOST_DRAWN = 40;
    private static final int AGREE_HOURS = 12;

    private static final int LEFT = 0;
    private static final int RIGHT = 1;
    private static final int NOBODY = -1;
    private static final int NOTHING = 10;

    private static final int USES = 2;
    private static final int SHOWN = 0;
    private static final int HEED_RIGHT = 1;

    private static final int TAPE_BYTES = 50;
    private static final int MOST_OPEN = 5;
    private static final int MOST_DIGITS = 4;
    private static final int SHEETS = 4;
    private static final int SHEET_NUMBERS = 40;
    private static final int TRACE_BODIES = 40;
    private static final int MOST_WAITING = 20;

    private final EyeKind[] kinds;
    private final World world;
    private final World thought;
    private final World keptWorld;
    private final Laws laws;
    private final Laws keptLaws;
    private final TextReader reader;
    private final Row tape;
    private final Row keptTape;
    private final Row waiting;
    private final Row keptWaiting;
    private final Row bodies;
    private final Row[] sheets;
    private final int[] errors;
    private int images;

    public GlassEyes() {
        bodies = new Row(TRACE_BODIES);
        EyeKind[] all = {new EyeKind(bodies), new PlainKind(bodies), new GeneralKind(bodies), new HarbourKind(bodies),
            new AlleyKind(bodies), new ShutKind(bodies), new MatchedKind(bodies)};
        kinds = all;
        laws = new Laws();
        keptLaws = new Laws();
        world = new World(laws, all);
        thought = new World(laws, all);
        keptWorld = new World(keptLaws, all);
        reader = new TextReader();
        tape = new Row(TAPE_BYTES);
        keptTape = new Row(TAPE_BYTES);
        waiting = new Row(MOST_WAITING);
        keptWaiting = new Row(MOST_WAITING);
        sheets = new Row[SHEETS];
        for (int i = 0; i < SHEETS; i++) {
            sheets[i] = new Row(SHEET_NUMBERS);
        }
        errors = new int[ERRORS + 1];
        images = 0;
    }

    // ---- things, eyes, wearers

    public int dread(int thing, int v) {
        if (noThing(thing) || outside(v, 0, 9)) {
            return error(BEYOND);
        }
        int was = world.dreadOf[thing];
        world.dreadOf[thing] = v;
        return was;
    }

    public int eye(int km, int base) {
        if (noKindAndNumber(km) || outside(base, 0, 9)) {
            return error(BEYOND);
        }
        if (world.eyes >= MOST_EYES) {
            return error(FULL);
        }
        return world.addEye(km / 10, km % 10, base);
    }

    public int ofEye(int eye, int what) {
        if (noEye(eye)) {
            return error(BEYOND);
        }
        switch (what) {
            case 0:
                return world.kindOf[eye];
            case 1:
                return world.numberOf[eye];
            case 2:
                return world.baseOf[eye];
            case 3:
                return world.wornOf[eye];
            case 4:
                return whoWears(eye);
            case 5:
                return world.thingOf(eye);
            case 6:
                return world.heavyOf(eye);
            default:
                return error(BEYOND);
        }
    }

    public int change(int eye, int what, int v) {
        if (noEye(eye) || outside(what, 0, 1) || outside(v, 0, what == 0 ? 9 : LAST_HOUR)) {
            return error(BEYOND);
        }
        int[] row = what == 0 ? world.baseOf : world.wornOf;
        int was = row[eye];
        row[eye] = v;
        return was;
    }

    public int wearer() {
        if (world.wearers >= MOST_WEARERS) {
            return error(FULL);
        }
        return world.addWearer();
    }

    public int ofWearer(int wearer, int what) {
        if (noWearer(wearer) || outside(what, 0, 4)) {
            return error(BEYOND);
        }
        return what == 4 ? world.heededEye(wearer) : world.wearerHas(wearer, what);
    }

    public int set(int wearer, int what, int v) {
        if (noWearer(wearer) || outside(what, 0, 1) || outside(v, 0, what == 0 ? MOST_BEARS : ALL_THINGS)) {
            return error(BEYOND);
        }
        int[] row = what == 0 ? world.bearsOf : world.seenBy;
        int was = row[wearer];
        row[wearer] = v;
        return was;
    }

    public int wear(int wearer, int side, int eye) {
        if (noWearer(wearer) || noSide(side) || (eye != NOBODY && noEye(eye))) {
            return error(BEYOND);
        }
        return world.fit(wearer, side, eye);
    }

    public int become(int eye, int km) {
        if (noEye(eye) || noKindAndNumber(km)) {
            return error(BEYOND);
        }
        int was = world.kindOf[eye];
        world.kindOf[eye] = km / 10;
        world.numberOf[eye] = km % 10;
        return was;
    }

    public int as(int eye, int kind) {
        if (noEye(eye) || outside(kind, 0, KINDS - 1)) {
            return error(BEYOND);
        }
        if (!kinds[world.kindOf[eye]].isOf(kind)) {
            return error(KIND);
        }
        return world.numberOf[eye];
    }

    // ---- texts

    public int feed(long word, int n) {
        if (outside(n, 1, 8)) {
            return error(BEYOND);
        }
        if (tape.size + n > TAPE_BYTES) {
            return error(FULL);
        }
        for (int i = 0; i < n; i++) {
            tape.add((int) (word >>> (8 * i)) & 255);
        }
        return tape.size;
    }

    public int text(int use) {
        if (noUse(use)) {
            return error(BEYOND);
        }
        int fault = reader.faultOf(tape, use);
        tape.size = 0;
        if (fault >= 0) {
            return -10 - fault;
        }
        laws.codeOf[use].copyFrom(reader.code);
        return 1;
    }

    public int law(int use, int a, int b, int c) {
        if (noUse(use)) {
            return error(BEYOND);
        }
        return laws.worth(use, a, b, c);
    }

    // ---- hours

    public int hours(int n) {
        if (outside(n, 1, FAR)) {
            return error(BEYOND);
        }
        if (world.hour + n > LAST_HOUR) {
            return error(STATE);
        }
        world.outs = 0;
        world.passHours(n);
        return world.outs;
    }

    public int loose(int n) {
        if (outside(n, 1, MOST_DRAWN)) {
            return error(BEYOND);
        }
        if (world.hour + n > LAST_HOUR) {
            return error(STATE);
        }
        world.outs = 0;
        for (int i = 0; i < n; i++) {
            world.drawBase();
            world.passHours(1);
        }
        return world.outs;
    }

    // ---- what would be

    public int then(int n, int wearer, int what) {
        if (outside(n, 0, FAR) || noWearer(wearer) || outside(what, 0, 3)) {
            return error(BEYOND);
        }
        thinkAhead(n);
        return thought.wearerHas(wearer, what);
    }

    public int out(int what) {
        if (outside(what, 0, 1)) {
            return error(BEYOND);
        }
        thought.copyFrom(world);
        for (int n = 1; n <= FAR; n++) {
            thought.passHours(1);
            if (thought.outs > 0) {
                return what == 0 ? n : thought.firstOut;
            }
        }
        return error(NONE);
    }

    public int eyeFor(int wearer, int side, int n, int what) {
        if (noWearer(wearer) || noSide(side) || outside(n, 0, FAR) || outside(what, 0, 1)) {
            return error(BEYOND);
        }
        if (world.eyes == 0) {
            return error(NONE);
        }
        int best = NOBODY;
        int most = -1;
        for (int eye = 0; eye < world.eyes; eye++) {
            thought.copyFrom(world);
            thought.fit(wearer, side, eye);
            thought.passHours(n);
            if (thought.bearsOf[wearer] > most) {
                most = thought.bearsOf[wearer];
                best = eye;
            }
        }
        return what == 0 ? best : most;
    }

    public int watch(int wearer, int thing) {
        if (noWearer(wearer) || noThing(thing)) {
            return error(BEYOND);
        }
        thought.copyFrom(world);
        for (int n = 1; n <= FAR; n++) {
            thought.passHours(1);
            if (thought.heededBy[wearer] == thing) {
                return n;
            }
        }
        return error(NONE);
    }

    public int whose(int sheet, int wearer, int what) {
        if (noSheet(sheet) || noWearer(wearer) || outside(what, 0, 1)) {
            return error(BEYOND);
        }
        if (sheets[sheet].bits == 0) {
            return error(NONE);
        }
        int eyes = 0;
        for (int eye = 0; eye < world.eyes; eye++) {
            if (couldBe(eye, sheets[sheet], wearer)) {
                eyes |= 1 << eye;
            }
        }
        return what == 0 ? eyes : Integer.bitCount(eyes);
    }

    public int lend(int n) {
        if (outside(n, 0, NEAR)) {
            return error(BEYOND);
        }
        int best = -1;
        int most = -1;
        for (int eye = 0; eye < world.eyes; eye++) {
            for (int socket = 0; socket < 2 * world.wearers; socket++) {
                if (world.socketOf(eye) < 0 && world.eyeIn[socket] == NOBODY) {
                    int things = thingsIfLent(eye, socket, n);
                    if (things > most) {
                        most = things;
                        best = 100 * eye + placeNumber(socket);
                    }
                }
            }
        }
        return best;
    }

    public int blind(int n) {
        if (outside(n, 0, FAR)) {
            return error(BEYOND);
        }
        thinkAhead(n);
        return ALL_THINGS & ~thought.seenByAnybody();
    }

    public int agree(int what) {
        if (outside(what, 0, 1)) {
            return error(BEYOND);
        }
        int best = -1;
        int most = 0;
        thought.copyFrom(world);
        for (int n = 0; n < AGREE_HOURS; n++) {
            thought.passHours(1);
            int agreed = thought.mostHeeding();
            if (agreed > most) {
                most = agreed;
                best = n;
            }
        }
        if (most == 0) {
            return error(NONE);
        }
        return what == 0 ? best : most;
    }

    public int dreads(int n) {
        if (outside(n, 0, FAR)) {
            return error(BEYOND);
        }
        thinkAhead(n);
        return thought.lost;
    }

    public int swap(int n) {
        if (outside(n, 0, NEAR)) {
            return error(BEYOND);
        }
        thinkAhead(n);
        int best = -1;
        int most = Integer.bitCount(thought.seenByAnybody());
        for (int one = 0; one < world.wearers; one++) {
            for (int other = one + 1; other < world.wearers; other++) {
                int things = thingsIfSwapped(one, other, n);
                if (things > most) {
                    most = things;
                    best = 10 * one + other;
                }
            }
        }
        return best;
    }

    public int odds(int wearer, int thing, int n, int part) {
        if (noWearer(wearer) || noThing(thing) || outside(n, 0, FAR) || outside(part, 0, 1)) {
            return error(BEYOND);
        }
        if (world.eyes == 0) {
            return error(NONE);
        }
        int good = 0;
        for (int eye = 0; eye < world.eyes; eye++) {
            thought.copyFrom(world);
            thought.fitAlone(wearer, eye);
            thought.passHours(n);
            good += thought.seenBy[wearer] >> thing & 1;
        }
        int shared = commonDivisor(good, world.eyes);
        return (part == 0 ? good : world.eyes) / shared;
    }

    // ---- draws, voices, sheets, images, what is told

    public int seed(int v) {
        int was = world.z;
        world.z = v;
        return was;
    }

    public int voice(int eye, int act, int x) {
        if (noEye(eye) || outside(act, 0, 3)) {
            return error(BEYOND);
        }
        bodies.size = 0;
        EyeKind kind = kinds[world.kindOf[eye]];
        int m = world.numberOf[eye];
        switch (act) {
            case 0:
                return kind.sees(eye, m, x);
            case 1:
                return kind.looks(eye, m, x);
            case 2:
                return kind.blinks(eye, m, x);
            default:
                return kind.tells(eye, m, x);
        }
    }

    public int trace(int i) {
        if (!bodies.holds(i, 1)) {
            return error(NONE);
        }
        return bodies.numbers[i];
    }

    public int sheet(int sheet, int bits, int n) {
        if (noSheet(sheet) || (bits != 0 && bits != 8 && bits != 16 && bits != 32)) {
            return error(BEYOND);
        }
        if (bits != 0 && n < 0) {
            return error(STATE);
        }
        if (bits != 0 && n > SHEET_NUMBERS) {
            return error(BEYOND);
        }
        sheets[sheet].clearTo(bits, bits == 0 ? 0 : n);
        return 1;
    }

    public int put(int sheet, int i, int v) {
        if (noSheet(sheet)) {
            return error(BEYOND);
        }
        Row row = sheets[sheet];
        if (row.bits == 0) {
            return error(NONE);
        }
        if (!row.holds(i, 1)) {
            return error(BEYOND);
        }
        row.numbers[i] = row.lowestBits(v);
        return 1;
    }

    public int move(int sheet, int i, int other, int j, int n) {
        if (noSheet(sheet) || noSheet(other)) {
            return error(BEYOND);
        }
        Row from = sheets[sheet];
        Row to = sheets[other];
        if (from.bits == 0 || to.bits == 0) {
            return error(NONE);
        }
        if (from.bits != to.bits) {
            return error(KIND);
        }
        if (!from.holds(i, n) || !to.holds(j, n)) {
            return error(BEYOND);
        }
        System.arraycopy(from.numbers, i, to.numbers, j, n);
        return n;
    }

    public int bases(int sheet) {
        if (noSheet(sheet)) {
            return error(BEYOND);
        }
        Row row = sheets[sheet];
        if (row.bits == 0) {
            return error(NONE);
        }
        int most = Math.min(row.size, world.eyes);
        for (int i = 0; i < most; i++) {
            if (outside(row.numbers[i], 0, 9)) {
                return i;
            }
            world.baseOf[i] = row.numbers[i];
        }
        return most;
    }

    public int judge(int sheet) {
        if (noSheet(sheet)) {
            return error(BEYOND);
        }
        Row row = sheets[sheet];
        if (row.bits == 0) {
            return error(NONE);
        }
        int both = Math.min(row.size, world.eyes);
        for (int i = 0; i < both; i++) {
            if (row.numbers[i] != world.thingOf(i)) {
                return i;
            }
        }
        return row.size == world.eyes ? -1 : both;
    }

    public int image() {
        keptWorld.copyFrom(world);
        keptLaws.copyFrom(laws);
        keptTape.copyFrom(tape);
        keptWaiting.copyFrom(waiting);
        images++;
        return images;
    }

    public int restore() {
        if (images == 0) {
            return error(NONE);
        }
        world.copyFrom(keptWorld);
        laws.copyFrom(keptLaws);
        tape.copyFrom(keptTape);
        waiting.copyFrom(keptWaiting);
        return world.hour;
    }

    public int tell(int v) {
        if (waiting.size >= MOST_WAITING) {
            return error(FULL);
        }
        waiting.add(v);
        return waiting.size;
    }

    public int check() {
        int numbers = waiting.size;
        waiting.size = 0;
        thought.copyFrom(world);
        for (int i = 0; i < numbers; i++) {
            thought.passHours(1);
            if (thought.bearsOfAll() != waiting.numbers[i]) {
                return 1 + i;
            }
        }
        return 0;
    }

    public int count(int what) {
        switch (what) {
            case 0:
                return world.eyes;
            case 1:
                return world.wearers;
            case 2:
                return world.hour;
            case 3:
                return world.bearsOfAll();
            case 4:
                return world.seenByAnybody();
            case 5:
                return world.wornEyes();
            case 6:
                return tape.size;
            case 7:
                return waiting.size;
            case 8:
                return bodies.size;
            case 9:
                return world.z;
            default:
                return error(BEYOND);
        }
    }

    public int told(int k) {
        if (outside(k, 1, ERRORS)) {
            return error(BEYOND);
        }
        return errors[k];
    }

    // ---- what the face leans on

    private int error(int k) {
        errors[k]++;
        return LOW - k;
    }

    private static boolean outside(int v, int least, int most) {
        return v < least || v > most;
    }

    private static boolean noThing(int thing) {
        return outside(thing, 0, THINGS - 1);
    }

    private static boolean noKindAndNumber(int km) {
        return outside(km, 0, 10 * KINDS - 1);
    }

    private boolean noEye(int eye) {
        return outside(eye, 0, world.eyes - 1);
    }

    private boolean noWearer(int wearer) {
        return outside(wearer, 0, world.wearers - 1);
    }

    private static boolean noSide(int side) {
        return outside(side, LEFT, RIGHT);
    }

    private static boolean noUse(int use) {
        return outside(use, 0, USES - 1);
    }

    private static boolean noSheet(int sheet) {
        return outside(sheet, 0, SHEETS - 1);
    }

    private int whoWears(int eye) {
        int socket = world.socketOf(eye);
        return socket < 0 ? NOBODY : placeNumber(socket);
    }

    private static int placeNumber(int socket) {
        return 10 * (socket / 2) + socket % 2;
    }

    private void thinkAhead(int n) {
        thought.copyFrom(world);
        thought.passHours(n);
    }

    private boolean couldBe(int eye, Row things, int wearer) {
        thought.copyFrom(world);
        thought.fitAlone(wearer, eye);
        thought.spared = wearer;
        for (int i = 0; i < things.size; i++) {
            thought.passHours(1);
            if (thought.heededBy[wearer] != things.numbers[i]) {
                return false;
            }
        }
        return true;
    }

    private int thingsIfLent(int eye, int socket, int n) {
        thought.copyFrom(world);
        thought.eyeIn[socket] = eye;
        thought.passHours(n);
        return Integer.bitCount(thought.seenByAnybody());
    }

    private int thingsIfSwapped(int one, int other, int n) {
        thought.copyFrom(world);
        for (int side = LEFT; side <= RIGHT; side++) {
            thought.eyeIn[2 * one + side] = world.eyeIn[2 * other + side];
            thought.eyeIn[2 * other + side] = world.eyeIn[2 * one + side];
        }
        thought.passHours(n);
        return Integer.bitCount(thought.seenByAnybody());
    }

    /** Both are eyes counted, 0 to 8, and the second is above 0, so the answer is at least 1. */
    private static int commonDivisor(int some, int all) {
        for (int d = all; d > 1; d--) {
            if (some % d == 0 && all % d == 0) {
                return d;
            }
        }
        return 1;
    }

    /** Things, eyes and wearers at an hour: one is so, one is kept as an image, one is only thought. */
    private static final class World {
        final Laws laws;
        final EyeKind[] kinds;
        final int[] dreadOf;
        final int[] kindOf;
        final int[] numberOf;
        final int[] baseOf;
        final int[] wornOf;
        final int[] eyeIn;
        final int[] bearsOf;
        final int[] seenBy;
        final int[] heededBy;
        int eyes;
        int wearers;
        int hour;
        int z;
        int outs;
        int firstOut;
        int lost;
        /** The one who keeps what it wears, bearing nothing, as is supposed for whose(). */
        int spared;

        World(Laws laws, EyeKind[] kinds) {
            this.laws = laws;
            this.kinds = kinds;
            dreadOf = new int[THINGS];
            for (int thing = 0; thing < THINGS; thing++) {
                dreadOf[thing] = thing;
            }
            kindOf = new int[MOST_EYES];
            numberOf = new int[MOST_EYES];
            baseOf = new int[MOST_EYES];
            wornOf = new int[MOST_EYES];
            eyeIn = new int[2 * MOST_WEARERS];
            bearsOf = new int[MOST_WEARERS];
            seenBy = new int[MOST_WEARERS];
            heededBy = new int[MOST_WEARERS];
            z = 1;
            firstOut = NOBODY;
            spared = NOBODY;
        }

        /** What the hours of the other one have come to (outs, lost) isn't taken over: a thought counts its own. */
        void copyFrom(World other) {
            System.arraycopy(other.dreadOf, 0, dreadOf, 0, THINGS);
            System.arraycopy(other.kindOf, 0, kindOf, 0, MOST_EYES);
            System.arraycopy(other.numberOf, 0, numberOf, 0, MOST_EYES);
            System.arraycopy(other.baseOf, 0, baseOf, 0, MOST_EYES);
            System.arraycopy(other.wornOf, 0, wornOf, 0, MOST_EYES);
            System.arraycopy(other.eyeIn, 0, eyeIn, 0, 2 * MOST_WEARERS);
            System.arraycopy(other.bearsOf, 0, bearsOf, 0, MOST_WEARERS);
            System.arraycopy(other.seenBy, 0, seenBy, 0, MOST_WEARERS);
            eyes = other.eyes;
            wearers = other.wearers;
            hour = other.hour;
            z = other.z;
            outs = 0;
            firstOut = NOBODY;
            lost = 0;
            spared = NOBODY;
        }

        int addEye(int kind, int number, int base) {
            kindOf[eyes] = kind;
            numberOf[eyes] = number;
            baseOf[eyes] = base;
            wornOf[eyes] = 0;
            eyes++;
            return eyes - 1;
        }

        int addWearer() {
            eyeIn[2 * wearers + LEFT] = NOBODY;
            eyeIn[2 * wearers + RIGHT] = NOBODY;
            bearsOf[wearers] = FRESH_BEARS;
            seenBy[wearers] = 0;
            wearers++;
            return wearers - 1;
        }

        int wearerHas(int wearer, int what) {
            switch (what) {
                case 0:
                    return eyeIn[2 * wearer + LEFT];
                case 1:
                    return eyeIn[2 * wearer + RIGHT];
                case 2:
                    return bearsOf[wearer];
                default:
                    return seenBy[wearer];
            }
        }

        /** Twice the wearer, and the side; -1: nobody wears it. */
        int socketOf(int eye) {
            for (int socket = 0; socket < 2 * wearers; socket++) {
                if (eyeIn[socket] == eye) {
                    return socket;
                }
            }
            return -1;
        }

        int fit(int wearer, int side, int eye) {
            int was = eyeIn[2 * wearer + side];
            takeFromWhereItIs(eye);
            eyeIn[2 * wearer + side] = eye;
            return was;
        }

        private void takeFromWhereItIs(int eye) {
            int socket = eye == NOBODY ? -1 : socketOf(eye);
            if (socket >= 0) {
                eyeIn[socket] = NOBODY;
            }
        }

        void fitAlone(int wearer, int eye) {
            fit(wearer, LEFT, eye);
            eyeIn[2 * wearer + RIGHT] = NOBODY;
        }

        int thingOf(int eye) {
            int v = laws.worth(SHOWN, baseOf[eye], hour % 12, numberOf[eye]);
            return kinds[kindOf[eye]].shows(v, this, eye) % 10;
        }

        int heavyOf(int eye) {
            return kinds[kindOf[eye]].heavyAt(hour);
        }

        int heededEye(int wearer) {
            int left = eyeIn[2 * wearer + LEFT];
            int right = eyeIn[2 * wearer + RIGHT];
            if (left == NOBODY) {
                return right;
            }
            if (right == NOBODY) {
                return left;
            }
            return laws.worth(HEED_RIGHT, thingOf(left), thingOf(right), hour % 12) != 0 ? right : left;
        }

        void passHours(int n) {
            for (int i = 0; i < n; i++) {
                for (int wearer = 0; wearer < wearers; wearer++) {
                    passFor(wearer);
                }
                hour++;
            }
        }

        private void passFor(int wearer) {
            int eye = heededEye(wearer);
            if (eye == NOBODY) {
                heededBy[wearer] = NOTHING;
                bearsOf[wearer] = Math.min(MOST_BEARS, bearsOf[wearer] + 1);
                return;
            }
            int thing = thingOf(eye);
            heededBy[wearer] = thing;
            seenBy[wearer] |= 1 << thing;
            if (wearer != spared) {
                int weight = Math.min(bearsOf[wearer], heavyOf(eye) * dreadOf[thing]);
                bearsOf[wearer] -= weight;
                lost += weight;
            }
            wearOn(eyeIn[2 * wearer + LEFT]);
            wearOn(eyeIn[2 * wearer + RIGHT]);
            if (wearer != spared && bearsOf[wearer] == 0) {
                takeOut(wearer, eye);
            }
        }

        private void wearOn(int eye) {
            if (eye != NOBODY) {
                wornOf[eye] = Math.min(LAST_HOUR, wornOf[eye] + 1);
            }
        }

        private void takeOut(int wearer, int eye) {
            takeFromWhereItIs(eye);
            bearsOf[wearer] = FRESH_BEARS;
            if (outs == 0) {
                firstOut = wearer;
            }
            outs++;
        }

        /** How many heeded the thing that most did in the hour that went by last. */
        int mostHeeding() {
            int most = 0;
            for (int thing = 0; thing < THINGS; thing++) {
                int those = 0;
                for (int wearer = 0; wearer < wearers; wearer++) {
                    if (heededBy[wearer] == thing) {
                        those++;
                    }
                }
                most = Math.max(most, those);
            }
            return most;
        }

        void drawBase() {
            z = z * 1103515245 + 12345;
            int drawn = z >>> 8;
            if (eyes > 0) {
                baseOf[drawn % eyes] = drawn / 8 % 10;
            }
        }

        int seenByAnybody() {
            int things = 0;
            for (int wearer = 0; wearer < wearers; wearer++) {
                things |= seenBy[wearer];
            }
            return things;
        }

        int bearsOfAll() {
            int sum = 0;
            for (int wearer = 0; wearer < wearers; wearer++) {
                sum += bearsOf[wearer];
            }
            return sum;
        }

        int wornEyes() {
            int set = 0;
            for (int eye = 0; eye < eyes; eye++) {
                if (socketOf(eye) >= 0) {
                    set |= 1 << eye;
                }
            }
            return set;
        }
    }

    /** What eyes of a kind do; the kinds under it are its subclasses, so that Java's own super is the document's. */
    private static class EyeKind {
        final Row bodies;

        EyeKind(Row bodies) {
            this.bodies = bodies;
        }

        boolean isOf(int kind) {
            return kind == 0;
        }

        int shows(int v, World world, int eye) {
            return v;
        }

        int heavyAt(int hour) {
            return 1;
        }

        int sees(int n, int m, int x) {
            bodies.add(10);
            return x + n;
        }

        int looks(int n, int m, int x) {
            bodies.add(11);
            return sees(n, m, x) * 2;
        }

        int blinks(int n, int m, int x) {
            bodies.add(12);
            return x - m;
        }

        int tells(int n, int m, int x) {
            bodies.add(13);
            return looks(n, m, x) ^ blinks(n, m, x);
        }
    }

    private static class PlainKind extends EyeKind {
        PlainKind(Row bodies) {
            super(bodies);
        }

        boolean isOf(int kind) {
            return kind == 1 || super.isOf(kind);
        }

        int shows(int v, World world, int eye) {
            return v + world.numberOf[eye];
        }

        int sees(int n, int m, int x) {
            bodies.add(20);
            return super.sees(n, m, x) * 3;
        }
    }

    private static class GeneralKind extends EyeKind {
        GeneralKind(Row bodies) {
            super(bodies);
        }

        boolean isOf(int kind) {
            return kind == 2 || super.isOf(kind);
        }

        int shows(int v, World world, int eye) {
            return 9 - v % 10;
        }

        int heavyAt(int hour) {
            return 2;
        }

        int looks(int n, int m, int x) {
            bodies.add(30);
            return super.looks(n, m, x) - blinks(n, m, 1);
        }
    }

    private static class HarbourKind extends EyeKind {
        HarbourKind(Row bodies) {
            super(bodies);
        }

        boolean isOf(int kind) {
            return kind == 3 || super.isOf(kind);
        }

        int shows(int v, World world, int eye) {
            return world.baseOf[eye];
        }

        int blinks(int n, int m, int x) {
            bodies.add(40);
            return -super.blinks(n, m, x);
        }
    }

    private static final class AlleyKind extends PlainKind {
        AlleyKind(Row bodies) {
            super(bodies);
        }

        boolean isOf(int kind) {
            return kind == 4 || super.isOf(kind);
        }

        int shows(int v, World world, int eye) {
            return super.shows(v, world, eye) + world.wornOf[eye] % 3;
        }

        int heavyAt(int hour) {
            return 0;
        }

        int tells(int n, int m, int x) {
            bodies.add(50);
            return super.tells(n, m, x) - sees(n, m, 2);
        }
    }

    private static final class ShutKind extends GeneralKind {
        ShutKind(Row bodies) {
            super(bodies);
        }

        boolean isOf(int kind) {
            return kind == 5 || super.isOf(kind);
        }

        int shows(int v, World world, int eye) {
            return world.hour % 4 == 0 ? world.baseOf[eye] : super.shows(v, world, eye);
        }

        int heavyAt(int hour) {
            return hour % 4 == 0 ? 0 : super.heavyAt(hour);
        }

        int looks(int n, int m, int x) {
            bodies.add(60);
            return super.looks(n, m, x + 1);
        }
    }

    private static final class MatchedKind extends HarbourKind {
        MatchedKind(Row bodies) {
            super(bodies);
        }

        boolean isOf(int kind) {
            return kind == 6 || super.isOf(kind);
        }

        int shows(int v, World world, int eye) {
            return super.shows(v, world, eye) + world.hour % 2;
        }

        int blinks(int n, int m, int x) {
            bodies.add(70);
            return super.blinks(n, m, x) ^ n;
        }

        int tells(int n, int m, int x) {
            bodies.add(71);
            return looks(n, m, x) - super.tells(n, m, x);
        }
    }

    /**
     * The texts of the uses, as code that works on a stack: a number from 0 on stands for itself, -1, -2, -3 for the
     * names in order, and an operator is its sign below 0. A use without a text has the code of the one it goes by.
     */
    private static final class Laws {
        final Row[] codeOf;
        final int[] stack;

        Laws() {
            codeOf = new Row[USES];
            for (int use = 0; use < USES; use++) {
                codeOf[use] = new Row(TAPE_BYTES);
            }
            codeOf[SHOWN].add(-1);
            codeOf[SHOWN].add(-2);
            codeOf[SHOWN].add(-'+');
            codeOf[HEED_RIGHT].add(-3);
            codeOf[HEED_RIGHT].add(2);
            codeOf[HEED_RIGHT].add(-'%');
            stack = new int[TAPE_BYTES];
        }

        void copyFrom(Laws other) {
            for (int use = 0; use < USES; use++) {
                codeOf[use].copyFrom(other.codeOf[use]);
            }
        }

        /** Code that was read well never fails the tests of top; they stand so that no index hangs on the reader alone. */
        int worth(int use, int a, int b, int c) {
            Row code = codeOf[use];
            int top = -1;
            for (int i = 0; i < code.size; i++) {
                int sign = code.numbers[i];
                if (sign >= -3 && top < TAPE_BYTES - 1) {
                    top++;
                    stack[top] = sign >= 0 ? sign : sign == -1 ? a : sign == -2 ? b : c;
                } else if (sign == -'!' && top >= 0) {
                    stack[top] = stack[top] == 0 ? 1 : 0;
                } else if (top > 0) {
                    top--;
                    stack[top] = join(-sign, stack[top], stack[top + 1]);
                }
            }
            return Math.max(0, Math.min(use == SHOWN ? 99 : 1, stack[0]));
        }

        private static int join(int sign, int a, int b) {
            switch (sign) {
                case '|':
                    return a != 0 || b != 0 ? 1 : 0;
                case '&':
                    return a != 0 && b != 0 ? 1 : 0;
                case '<':
                    return a < b ? 1 : 0;
                case '=':
                    return a == b ? 1 : 0;
                case '>':
                    return a > b ? 1 : 0;
                case '+':
                    return a + b;
                case '-':
                    return a - b;
                case '*':
                    return a * b;
                case '/':
                    return b == 0 ? 0 : a / b;
                default:
                    return b == 0 ? 0 : a % b;
            }
        }
    }

    /** Reads a text into code; each of the reads answers whether it went well, and stops at the fault if not. */
    private static final class TextReader {
        final Row code;
        private Row tape;
        private int use;
        private int at;

        TextReader() {
            code = new Row(TAPE_BYTES);
        }

        /** The place of the fault; -1: there is none, and the code stands. */
        int faultOf(Row bytes, int forUse) {
            tape = bytes;
            use = forUse;
            at = 0;
            code.size = 0;
            return readText(0) && at == tape.size ? -1 : at;
        }

        /** The sign that comes next; -1: the tape is at its end. */
        private int next() {
            return at < tape.size ? tape.numbers[at] : -1;
        }

        private boolean readText(int open) {
            if (!readAll(open)) {
                return false;
            }
            while (at < tape.size && next() == '|') {
                at++;
                if (!readAll(open)) {
                    return false;
                }
                code.add(-'|');
            }
            return true;
        }

        private boolean readAll(int open) {
            if (!readComparison(open)) {
                return false;
            }
            while (at < tape.size && next() == '&') {
                at++;
                if (!readComparison(open)) {
                    return false;
                }
                code.add(-'&');
            }
            return true;
        }

        private boolean readComparison(int open) {
            if (!readSum(open)) {
                return false;
            }
            int sign = next();
            if (sign != '<' && sign != '=' && sign != '>') {
                return true;
            }
            at++;
            if (!readSum(open)) {
                return false;
            }
            code.add(-sign);
            return true;
        }

        private boolean readSum(int open) {
            if (!readProduct(open)) {
                return false;
            }
            while (at < tape.size && (next() == '+' || next() == '-')) {
                int sign = next();
                at++;
                if (!readProduct(open)) {
                    return false;
                }
                code.add(-sign);
            }
            return true;
        }

        private boolean readProduct(int open) {
            if (!readPart(open)) {
                return false;
            }
            while (at < tape.size && (next() == '*' || next() == '/' || next() == '%')) {
                int sign = next();
                at++;
                if (!readPart(open)) {
                    return false;
                }
                code.add(-sign);
            }
            return true;
        }

        private boolean readPart(int open) {
            int sign = next();
            if (isDigit(sign)) {
                readNumber();
                return true;
            }
            if (nameOf(sign) != 0) {
                code.add(nameOf(sign));
                at++;
                return true;
            }
            if (open >= MOST_OPEN || (sign != '!' && sign != '(')) {
                return false;
            }
            at++;
            return sign == '!' ? readNot(open + 1) : readBracket(open + 1);
        }

        private boolean readNot(int open) {
            if (!readPart(open)) {
                return false;
            }
            code.add(-'!');
            return true;
        }

        private boolean readBracket(int open) {
            if (!readText(open) || next() != ')') {
                return false;
            }
            at++;
            return true;
        }

        private void readNumber() {
            int number = 0;
            for (int digits = 0; digits < MOST_DIGITS && isDigit(next()); digits++) {
                number = 10 * number + next() - '0';
                at++;
            }
            code.add(number);
        }

        private static boolean isDigit(int sign) {
            return sign >= '0' && sign <= '9';
        }

        /** -1, -2, -3 for the names of the use in order; 0: it is none of them. */
        private int nameOf(int sign) {
            String names = use == SHOWN ? "bhm" : "lrh";
            for (int i = 0; i < names.length(); i++) {
                if (names.charAt(i) == sign) {
                    return -1 - i;
                }
            }
            return 0;
        }
    }

    /** Numbers in a row that is made once and used again: a tape, a sheet (bits 0: missing), a trace, code. */
    private static final class Row {
        final int[] numbers;
        int size;
        int bits;

        Row(int most) {
            numbers = new int[most];
        }

        void add(int number) {
            if (size < numbers.length) {
                numbers[size] = number;
                size++;
            }
        }

        boolean holds(int from, int n) {
            return from >= 0 && n >= 0 && from <= size - n;
        }

        void copyFrom(Row other) {
            size = Math.min(other.size, numbers.length);
            System.arraycopy(other.numbers, 0, numbers, 0, size);
        }

        void clearTo(int newBits, int newSize) {
            bits = newBits;
            size = newSize;
            for (int i = 0; i < size; i++) {
                numbers[i] = 0;
            }
        }

        int lowestBits(int v) {
            return bits == 8 ? v & 255 : bits == 16 ? v & 65535 : v;
        }
    }
}
