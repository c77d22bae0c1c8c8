import java.util.Arrays;

/**
 * Screens bodies on rings for near passes and crashes. Every row that a call needs is made with the
 * object and used again, so no call makes anything.
 */
public final class PassScreener {
    public static final int NONE = -1;
    public static final int NOTHING = -1000000;

    private static final int BODIES_MOST = 10;
    private static final int TAPE_MOST = 1600;
    private static final int FEED_BYTES = 20;
    private static final int NAME_MOST = 6;
    private static final int GAP_MOST = 99;
    private static final int SIZE_MOST = 20;
    private static final int TURN_MOST = 48;
    private static final int TICK_MOST = 9999;
    private static final int BOX_TICKS_MOST = 200;
    private static final int UNSURE_MOST = 5;
    private static final int AHEAD_MOST = 2400;
    private static final int TRIED_AHEAD_MOST = 400;
    private static final int TICKS_MOST = 999;
    private static final int CHANCES_MOST = 40;
    private static final int FAR_BEYOND = 1000000;

    // The numbers of a body, in the order in which a text tells them and body() asks for them.
    private static final int LOW = 0;
    private static final int HIGH = 1;
    private static final int TURN = 2;
    private static final int PHASE = 3;
    private static final int LIFT = 4;
    private static final int TILT = 5;
    private static final int NODE = 6;
    private static final int FUEL = 7;
    private static final int UP = 8;
    private static final int TOLD_NUMBERS = 8;
    private static final int BODY_NUMBERS = 9;

    private final Tape tape = new Tape();
    private final SkyReader reader = new SkyReader(tape);
    private final Sky state = new Sky();
    private final Sieves sieves = new Sieves(state);
    private final Pairs pairs = new Pairs(state);
    private final Ahead ahead = new Ahead(state, pairs);
    private final Trials trials = new Trials(state, pairs, ahead);
    private final Acts acts = new Acts(state, sieves, pairs, ahead);
    private final Sight sight = new Sight();
    private final Picture picture = new Picture();
    private final int[] boxOfOne = new int[6];
    private final int[] boxOfOther = new int[6];
    private final int[] refusals = new int[6];

    public PassScreener() {
    }

    public int feed(int a, int b, int c, int d, int e) {
        if (!tape.hasRoomFor(FEED_BYTES)) {
            return refuse(0);
        }
        tape.put(a);
        tape.put(b);
        tape.put(c);
        tape.put(d);
        tape.put(e);
        return tape.length;
    }

    public boolean end(int n) {
        if (n < 0 || n > tape.length) {
            return refuse(0) != NONE;
        }
        tape.length = n;
        return true;
    }

    public int sky() {
        int statements = reader.read();
        tape.length = 0;
        if (statements == NONE) {
            return refuse(1);
        }
        state.takeFrom(reader);
        sight.rows = 0;
        acts.startAnew();
        return statements;
    }

    public int fault(int what) {
        if (what == 0) {
            return reader.faultKind;
        }
        return what == 1 ? reader.faultPlace : NONE;
    }

    public int has(int what) {
        switch (what) {
            case 0:
                return state.count;
            case 1:
                return Integer.bitCount(state.upBits());
            case 2:
                return state.gap;
            case 3:
                return state.now;
            case 4:
                return pairs.countNear();
            case 5:
                return sight.rows;
            case 6:
                return acts.undoable;
            case 7:
                return acts.seed;
            case 8:
            case 9:
            case 10:
                return sieves.countSievedBy(what - 7);
            case 11:
                return sieves.countSievedBy(0);
            case 12:
                return state.keptCount;
            case 13:
                return state.size;
            case 14:
                return pairs.countGroups();
            default:
                return NONE;
        }
    }

    public int letter(int body, int k) {
        if (!state.isBody(body) || k < 0 || k >= NAME_MOST) {
            return NONE;
        }
        return Tape.letterOf(state.bodies[body].name, k);
    }

    public int named() {
        int end = tape.wordEnd(0);
        int name = end == tape.length ? tape.wordCode(0, end) : NONE;
        tape.length = 0;
        return name == NONE ? NONE : state.bodyOfName(name);
    }

    public int body(int body, int what) {
        if (!state.isBody(body) || what < 0 || what >= BODY_NUMBERS) {
            return NONE;
        }
        return state.bodies[body].numbers[what];
    }

    public int spot(int body, int tick, int what) {
        if (!state.isBody(body) || !isTick(tick)) {
            return NOTHING;
        }
        return state.bodies[body].coordinate(tick, what);
    }

    public int far(int one, int other, int tick) {
        if (!state.areTwo(one, other) || !isTick(tick)) {
            return NONE;
        }
        Body first = state.bodies[one];
        Body second = state.bodies[other];
        return first.distance(first.stepAt(tick), second, second.stepAt(tick));
    }

    public int lean(int body, int other, int tick) {
        if (!state.areTwo(body, other) || !isTick(tick)) {
            return NOTHING;
        }
        Body leaning = state.bodies[body];
        return leaning.leanFrom(state.bodies[other], leaning.stepAt(tick));
    }

    public int sieve(int one, int other) {
        return state.areTwo(one, other) ? sieves.sieveOf(one, other) : NONE;
    }

    public int window(int body, int other, int k) {
        return state.areTwo(body, other) ? sieves.windowTick(body, other, k) : NONE;
    }

    public int times(int one, int other, int k) {
        return state.areTwo(one, other) ? sieves.commonTick(one, other, k) : NONE;
    }

    public int closest(int one, int other, int what) {
        if (!state.areTwo(one, other)) {
            return NONE;
        }
        switch (what) {
            case 0:
                return pairs.closestTick(one, other);
            case 1:
                return pairs.leastFar(one, other);
            case 2:
                return state.bodies[one].cycleWith(state.bodies[other]);
            case 3:
                return pairs.areNear(one, other) ? 1 : 0;
            default:
                return NONE;
        }
    }

    public int box(int body, int from, int to, int what) {
        if (!state.isBody(body) || !isSpan(from, to) || what < 0 || what >= boxOfOne.length) {
            return NOTHING;
        }
        state.bodies[body].boxInto(boxOfOne, from, to);
        return boxOfOne[what];
    }

    public int apart(int one, int other, int from, int to) {
        if (!state.areTwo(one, other) || !isSpan(from, to)) {
            return NONE;
        }
        state.bodies[one].boxInto(boxOfOne, from, to);
        state.bodies[other].boxInto(boxOfOther, from, to);
        int sum = 0;
        for (int axis = 0; axis < 3; axis++) {
            int below = boxOfOther[axis] - boxOfOne[axis + 3];
            int above = boxOfOne[axis] - boxOfOther[axis + 3];
            int between = Math.max(0, Math.max(below, above));
            sum += between * between;
        }
        return sum;
    }

    public int passes(int one, int other) {
        return state.areTwo(one, other) ? pairs.countPasses(one, other, NONE) : NONE;
    }

    public int pass(int one, int other, int k, int what) {
        if (!state.areTwo(one, other) || k < 0 || what < 0 || what >= pairs.passRow.length) {
            return NONE;
        }
        return k < pairs.countPasses(one, other, k) ? pairs.passRow[what] : NONE;
    }

    public int list(int k, int what) {
        if (k < 0 || what < 0 || what > 3) {
            return NONE;
        }
        int pair = pairs.pairOfRank(k);
        if (pair == NONE) {
            return NONE;
        }
        int one = pair / BODIES_MOST;
        int other = pair % BODIES_MOST;
        switch (what) {
            case 0:
                return one;
            case 1:
                return other;
            case 2:
                return pairs.closestTick(one, other);
            default:
                return pairs.leastFar(one, other);
        }
    }

    public int next(int what) {
        if (what < 0 || what >= ahead.meeting.length) {
            return NONE;
        }
        return ahead.findMeeting() ? ahead.meeting[what] : NONE;
    }

    public int threats(int body) {
        return state.isBody(body) ? Integer.bitCount(pairs.nearBits(body)) : NONE;
    }

    public int group(int body) {
        return state.isUp(body) ? pairs.leastOfGroup(body) : NONE;
    }

    public int chances(int one, int other, int e, int what) {
        if (!state.areTwo(one, other) || !isUnsureness(e)) {
            return NONE;
        }
        if (what == 1) {
            return (2 * e + 1) * (2 * e + 1);
        }
        return what == 0 ? pairs.countNearRows(one, other, e) : NONE;
    }

    public int margin(int one, int other) {
        return state.areTwo(one, other) ? pairs.leastUnsureness(one, other) : NONE;
    }

    public int watch(int e, int what) {
        if (!isUnsureness(e) || what < 0 || what >= pairs.watchRow.length) {
            return NONE;
        }
        return pairs.findWatched(e) ? pairs.watchRow[what] : NONE;
    }

    public int remains(int k, int what) {
        if (k < 0 || what < 0 || what > 1) {
            return NONE;
        }
        int pair = sieves.remainingPair(k);
        if (pair == NONE) {
            return NONE;
        }
        return what == 0 ? pair / BODIES_MOST : pair % BODIES_MOST;
    }

    public int crowd(int height) {
        return height < 0 ? NONE : state.countUpAt(height);
    }

    public int crowded(int what) {
        if (what < 0 || what > 1) {
            return NONE;
        }
        int height = state.crowdedHeight();
        if (height == NONE) {
            return NONE;
        }
        return what == 0 ? height : state.countUpAt(height);
    }

    public int kept(int k, int what) {
        if (k < 0 || k >= state.keptCount || what < 0 || what > 1) {
            return NONE;
        }
        return state.keptRows[2 * k + what];
    }

    public int doom(int body) {
        if (!state.isUp(body)) {
            return NONE;
        }
        ahead.cast(state.upBits(), state.size, AHEAD_MOST);
        return ahead.run(body, AHEAD_MOST);
    }

    public int stays(int n) {
        if (n < 0 || n > AHEAD_MOST || !state.isTold) {
            return NONE;
        }
        ahead.cast(state.upBits(), state.size, n);
        ahead.run(NONE, n);
        return ahead.alive;
    }

    public int odds(int body, int n) {
        if (!state.isUp(body) || n < 1 || n > TRIED_AHEAD_MOST) {
            return NONE;
        }
        return trials.countSafePhases(body, n);
    }

    public int saves(int body, int what) {
        if (!state.isUp(body) || what < 0 || what > 2) {
            return NONE;
        }
        return trials.findSaving(body) ? trials.found[what + 1] : NONE;
    }

    public int tries(int body, int kind, int d) {
        return state.isUp(body) ? trials.countNearBehind(body, kind, d) : NONE;
    }

    public int clears(int body, int what) {
        if (!state.isUp(body) || what < 0 || what > 2) {
            return NONE;
        }
        return trials.findClearing(body) ? trials.found[what + 1] : NONE;
    }

    public int clearing(int what) {
        if (what < 0 || what > 3) {
            return NONE;
        }
        return trials.findClearingAll() ? trials.found[what] : NONE;
    }

    public int twice(int body, int what) {
        if (!state.isUp(body) || what < 0 || what > 4) {
            return NONE;
        }
        return trials.findClearingTwo(body) ? trials.found[what] : NONE;
    }

    public int room(int one, int other) {
        if (!state.areTwo(one, other)) {
            return NONE;
        }
        int least = pairs.leastFar(one, other);
        int widest = NONE;
        for (int gap = 0; gap <= GAP_MOST && gap * gap < least; gap++) {
            widest = gap;
        }
        return widest;
    }

    public int see(int body) {
        int rows = state.isBody(body) && sight.takeFrom(tape, body) ? sight.rows : refuse(5);
        tape.length = 0;
        return rows;
    }

    public int fits(int k) {
        return sight.rows == 0 ? NONE : sight.fittingPhase(seenBody(), k);
    }

    public int tells(int what) {
        if (sight.rows == 0 || what < 0 || what > 1 || !sight.findTelling(seenBody())) {
            return NONE;
        }
        return what == 0 ? sight.tellingTick : sight.mostLeft;
    }

    public int burn(int body, int kind, int d) {
        if (!state.isUp(body) || !state.bodies[body].canBurn(kind, d)) {
            return refuse(3);
        }
        acts.burnOne(body, kind, d);
        return state.bodies[body].numbers[FUEL];
    }

    public boolean up(int body, boolean up) {
        if (!state.isBody(body) || state.isUp(body) == up) {
            return refuse(2) != NONE;
        }
        acts.raise(body, up);
        return true;
    }

    public boolean gap(int gap) {
        if (!state.isTold || gap < 0 || gap > GAP_MOST || gap == state.gap) {
            return refuse(3) != NONE;
        }
        acts.widen(gap);
        return true;
    }

    public int ticks(int n) {
        if (!state.isTold || n < 1 || n > TICKS_MOST || state.now + n > TICK_MOST) {
            return refuse(2);
        }
        acts.goOn(n);
        return state.now;
    }

    public int chance(int n) {
        if (state.count == 0 || n < 1 || n > CHANCES_MOST
                || state.now + n * (Acts.DRAWN_TICKS - 1) > TICK_MOST) {
            return refuse(2);
        }
        acts.leaveToSeed(n);
        return state.now;
    }

    public boolean undo() {
        return acts.takeBack() || refuse(4) != NONE;
    }

    public boolean seed(int seed) {
        if (seed < 0) {
            return refuse(5) != NONE;
        }
        acts.seed = seed;
        return true;
    }

    public int image() {
        return picture.paint(state);
    }

    public int octet(int k) {
        return k < 0 || k >= picture.length ? NONE : picture.bytes[k];
    }

    public boolean on() {
        boolean fitting = state.isTold && picture.isPainted(tape, state);
        if (fitting) {
            picture.restore(tape, state);
            acts.startAnew();
        }
        tape.length = 0;
        return fitting || refuse(5) != NONE;
    }

    public int status(int what) {
        return what < 0 || what >= refusals.length ? NONE : refusals[what];
    }

    /** Counts a refusal; the answer is always NONE. */
    private int refuse(int what) {
        if (what >= 0 && what < refusals.length) {
            refusals[what]++;
        }
        return NONE;
    }

    private static boolean isTick(int tick) {
        return tick >= 0 && tick <= TICK_MOST;
    }

    private static boolean isSpan(int from, int to) {
        return isTick(from) && isTick(to) && to >= from && to - from <= BOX_TICKS_MOST;
    }

    private static boolean isUnsureness(int e) {
        return e >= 0 && e <= UNSURE_MOST;
    }

    private Body seenBody() {
        return state.bodies[state.isBody(sight.body) ? sight.body : 0];
    }

    /** Bytes that were fed and not yet used. */
    private static final class Tape {
        private static final int LETTER_BITS = 5;

        final int[] bytes = new int[TAPE_MOST];
        int length;

        boolean hasRoomFor(int more) {
            return length + more <= TAPE_MOST;
        }

        void put(int number) {
            for (int shift = 24; shift >= 0 && length < TAPE_MOST; shift -= 8) {
                bytes[length] = number >> shift & 255;
                length++;
            }
        }

        /** The byte at a place; NONE behind the last one. */
        int byteAt(int place) {
            return place >= 0 && place < length ? bytes[place] : NONE;
        }

        int wordEnd(int from) {
            int place = from;
            while (place < length && byteAt(place) >= 'a' && byteAt(place) <= 'z') {
                place++;
            }
            return place;
        }

        int numberEnd(int from) {
            int place = from;
            while (place < length && byteAt(place) >= '0' && byteAt(place) <= '9') {
                place++;
            }
            return place;
        }

        /** A word in one number, so that words are alike if these are; NONE if it is no NAME by its length. */
        int wordCode(int from, int end) {
            if (end <= from || end - from > NAME_MOST) {
                return NONE;
            }
            int code = 0;
            for (int place = from; place < end; place++) {
                code |= codeOf(byteAt(place), place - from);
            }
            return code;
        }

        static int codeOf(int sign, int k) {
            return sign - 'a' + 1 << LETTER_BITS * k;
        }

        static int letterOf(int code, int k) {
            return code >> LETTER_BITS * k & (1 << LETTER_BITS) - 1;
        }
    }

    /** Reads the text of a sky into rows of its own, so that nothing else changes if it has a fault. */
    private static final class SkyReader {
        private static final int FAULT_TEXT = 1;
        private static final int FAULT_NUMBER = 2;
        private static final int FAULT_NAME = 3;
        private static final int FAULT_BODIES = 5;

        // The own words, six signs each; those of a body's numbers stand in the order of the numbers.
        private static final String WORDS =
                "gap   size  body  low   high  turn  phase lift  tilt  node  fuel  ";
        private static final int WORDS_COUNT = 11;
        private static final int WORD_GAP = 0;
        private static final int WORD_SIZE = 1;
        private static final int WORD_BODY = 2;
        private static final int WORD_LOW = 3;
        private static final int DIGITS_MOST = 3;

        int faultKind;
        int faultPlace = NONE;
        int gap;
        int size;
        int count;
        final int[] names = new int[BODIES_MOST];
        final int[][] rows = new int[BODIES_MOST][BODY_NUMBERS];
        private final Tape text;
        private int at;
        private boolean needsBlank;
        private int value;

        SkyReader(Tape text) {
            this.text = text;
        }

        /** How many statements there are; NONE with a fault. */
        int read() {
            at = 0;
            count = 0;
            needsBlank = false;
            faultKind = 0;
            faultPlace = NONE;
            readGap();
            // One round more than there may be bodies: the last one finds the end or a fault.
            for (int round = 0; round <= BODIES_MOST && faultKind == 0; round++) {
                skipBlanks();
                if (at >= text.length) {
                    break;
                }
                readBody();
            }
            return faultKind == 0 ? count + 1 : NONE;
        }

        private void readGap() {
            if (!takeWord(WORD_GAP) || !takeNumber(0, GAP_MOST)) {
                return;
            }
            gap = value;
            if (!takeWord(WORD_SIZE) || !takeNumber(0, SIZE_MOST)) {
                return;
            }
            size = value;
            takeStop();
        }

        private void readBody() {
            int word = at;
            if (!takeWord(WORD_BODY)) {
                return;
            }
            if (count >= BODIES_MOST) {
                fail(FAULT_BODIES, word);
                return;
            }
            if (!takeName()) {
                return;
            }
            int[] row = rows[count];
            for (int what = 0; what < TOLD_NUMBERS; what++) {
                if (!takeWord(WORD_LOW + what)
                        || !takeNumber(Body.leastOf(row, what), Body.mostOf(row, what))) {
                    return;
                }
                row[what] = value;
            }
            if (takeStop()) {
                row[UP] = 1;
                count++;
            }
        }

        private void skipBlanks() {
            while (at < text.length && (text.byteAt(at) == ' ' || text.byteAt(at) == '\n')) {
                at++;
                needsBlank = false;
            }
        }

        private boolean takeWord(int which) {
            skipBlanks();
            int end = text.wordEnd(at);
            if (needsBlank || end == at || text.wordCode(at, end) != ownCode(which)) {
                return fail(FAULT_TEXT, at);
            }
            return goBehind(end);
        }

        private boolean takeName() {
            skipBlanks();
            int end = text.wordEnd(at);
            if (needsBlank || end == at) {
                return fail(FAULT_TEXT, at);
            }
            if (end - at > NAME_MOST) {
                return fail(FAULT_TEXT, at + NAME_MOST);
            }
            int name = text.wordCode(at, end);
            for (int which = 0; which < WORDS_COUNT; which++) {
                if (name == ownCode(which)) {
                    return fail(FAULT_TEXT, at);
                }
            }
            for (int body = 0; body < count; body++) {
                if (name == names[body]) {
                    return fail(FAULT_NAME, at);
                }
            }
            names[count] = name;
            return goBehind(end);
        }

        private boolean takeNumber(int least, int most) {
            skipBlanks();
            int end = text.numberEnd(at);
            if (needsBlank || end == at) {
                return fail(FAULT_TEXT, at);
            }
            if (end - at > DIGITS_MOST) {
                return fail(FAULT_TEXT, at + DIGITS_MOST);
            }
            value = 0;
            for (int place = at; place < end; place++) {
                value = 10 * value + text.byteAt(place) - '0';
            }
            if (value < least || value > most) {
                return fail(FAULT_NUMBER, at);
            }
            return goBehind(end);
        }

        private boolean takeStop() {
            skipBlanks();
            if (text.byteAt(at) != ';') {
                return fail(FAULT_TEXT, at);
            }
            at++;
            needsBlank = false;
            return true;
        }

        private boolean goBehind(int end) {
            at = end;
            needsBlank = true;
            return true;
        }

        private boolean fail(int kind, int place) {
            faultKind = kind;
            faultPlace = place;
            return false;
        }

        private static int ownCode(int which) {
            int code = 0;
            for (int k = 0; k < NAME_MOST; k++) {
                int place = which * NAME_MOST + k;
                if (place < 0 || place >= WORDS.length() || WORDS.charAt(place) == ' ') {
                    break;
                }
                code |= Tape.codeOf(WORDS.charAt(place), k);
            }
            return code;
        }
    }

    /** What is told of a body, and the places of its ring by its steps, which its phase leaves alone. */
    private static final class Body {
        static final int KIND_LIFT = 1;
        static final int KIND_RISE = 2;
        static final int KIND_TILT = 4;
        static final int KINDS = 6;
        private static final int HEIGHT_MOST = 200;
        private static final int TILT_MOST = 16;
        private static final int NODE_MOST = 3;
        private static final int FUEL_MOST = 99;

        int name;
        // TURN once more, so that it can be divided by and stays within the rows also when nothing is told yet.
        int turn = 1;
        final int[] numbers = new int[BODY_NUMBERS];
        final int[] xs = new int[TURN_MOST];
        final int[] ys = new int[TURN_MOST];
        final int[] zs = new int[TURN_MOST];
        private final int[] heights = new int[TURN_MOST];

        /** The least that a text may tell as one of a body's numbers, those ahead of it being told. */
        static int leastOf(int[] row, int what) {
            switch (what) {
                case LOW:
                    return 1;
                case HIGH:
                    return row[LOW];
                case TURN:
                    return 2;
                default:
                    return 0;
            }
        }

        static int mostOf(int[] row, int what) {
            switch (what) {
                case LOW:
                case HIGH:
                    return HEIGHT_MOST;
                case TURN:
                    return TURN_MOST;
                case PHASE:
                case LIFT:
                    return row[TURN] - 1;
                case TILT:
                    return TILT_MOST;
                case NODE:
                    return NODE_MOST;
                case FUEL:
                    return FUEL_MOST;
                default:
                    return 1;
            }
        }

        void copyFrom(Body other) {
            System.arraycopy(other.numbers, 0, numbers, 0, BODY_NUMBERS);
            turn = other.turn;
        }

        int stepAt(int tick) {
            return (numbers[PHASE] + tick) % turn;
        }

        void layRing() {
            turn = Math.max(1, Math.min(numbers[TURN], TURN_MOST));
            for (int step = 0; step < turn; step++) {
                int lifted = (step + numbers[LIFT]) % turn;
                int rise = 2 * (numbers[HIGH] - numbers[LOW]) * Math.min(lifted, turn - lifted);
                heights[step] = numbers[LOW] + rise / turn;
                layStep(step, heights[step], 4 * step * heights[step] / turn);
            }
        }

        private void layStep(int step, int height, int way) {
            if (way <= height) {
                layPlace(step, height - way, way);
            } else if (way <= 2 * height) {
                layPlace(step, height - way, 2 * height - way);
            } else if (way <= 3 * height) {
                layPlace(step, way - 3 * height, 2 * height - way);
            } else {
                layPlace(step, way - 3 * height, way - 4 * height);
            }
        }

        private void layPlace(int step, int along, int across) {
            int flat = across * (16 - numbers[TILT]) / 16;
            zs[step] = across * numbers[TILT] / 16;
            switch (numbers[NODE]) {
                case 0:
                    xs[step] = along;
                    ys[step] = flat;
                    break;
                case 1:
                    xs[step] = -flat;
                    ys[step] = along;
                    break;
                case 2:
                    xs[step] = -along;
                    ys[step] = -flat;
                    break;
                default:
                    xs[step] = flat;
                    ys[step] = -along;
                    break;
            }
        }

        int coordinate(int tick, int what) {
            int step = stepAt(tick);
            switch (what) {
                case 0:
                    return xs[step];
                case 1:
                    return ys[step];
                case 2:
                    return zs[step];
                case 3:
                    return heights[step];
                default:
                    return NOTHING;
            }
        }

        int distance(int step, Body other, int otherStep) {
            int x = xs[step] - other.xs[otherStep];
            int y = ys[step] - other.ys[otherStep];
            int z = zs[step] - other.zs[otherStep];
            return x * x + y * y + z * z;
        }

        /** Most places are off by x alone already, so that is looked at first. */
        boolean isWithin(int gap, int step, Body other, int otherStep) {
            int x = xs[step] - other.xs[otherStep];
            if (x > gap || x < -gap) {
                return false;
            }
            int y = ys[step] - other.ys[otherStep];
            int z = zs[step] - other.zs[otherStep];
            return x * x + y * y + z * z <= gap * gap;
        }

        int leanFrom(Body other, int step) {
            int tilt = other.numbers[TILT];
            int turnedY;
            switch (other.numbers[NODE]) {
                case 0:
                    turnedY = ys[step];
                    break;
                case 1:
                    turnedY = -xs[step];
                    break;
                case 2:
                    turnedY = -ys[step];
                    break;
                default:
                    turnedY = xs[step];
                    break;
            }
            return (16 - tilt) * zs[step] - tilt * turnedY;
        }

        boolean shellIsOff(Body other, int gap) {
            int below = numbers[LOW] - other.numbers[HIGH];
            int above = other.numbers[LOW] - numbers[HIGH];
            int between = below > above ? below : above;
            return between > 0 && (between - 1) * (between - 1) > 3 * gap * gap;
        }

        /** The greatest number that goes into both turns. */
        int sharedWith(Body other) {
            int greater = turn;
            int lesser = other.turn;
            for (int round = 0; round < TURN_MOST && lesser > 0; round++) {
                int rest = greater % lesser;
                greater = lesser;
                lesser = rest;
            }
            return greater > 0 ? greater : 1;
        }

        int cycleWith(Body other) {
            int cycle = turn;
            for (int times = 1; times < other.turn && cycle % other.turn != 0; times++) {
                cycle += turn;
            }
            return cycle;
        }

        /**
         * The first of some steps, from one on, at which it is within a gap of another one, or NONE. In a cycle each
         * step of one meets just those of the other whose offset, modulo what goes into both turns, is that of the
         * phases; shells that are off can't meet.
         */
        int stepWithin(int gap, Body other, int from, int steps) {
            int shared = sharedWith(other);
            int offset = numbers[PHASE] - other.numbers[PHASE];
            int most = shellIsOff(other, gap) ? 0 : Math.min(steps, turn);
            for (int k = 0; k < most; k++) {
                int step = (from + k) % turn;
                int otherStep = Math.floorMod(step - offset, shared);
                for (; otherStep < other.turn && shared > 0; otherStep += shared) {
                    // Searches spend their time here: most places are off by x alone, and need no call.
                    int x = xs[step] - other.xs[otherStep];
                    if (x <= gap && x >= -gap && isWithin(gap, step, other, otherStep)) {
                        return step;
                    }
                }
            }
            return NONE;
        }

        void boxInto(int[] box, int from, int to) {
            int first = stepAt(from);
            for (int axis = 0; axis < 3; axis++) {
                box[axis] = coordinate(from, axis);
                box[axis + 3] = box[axis];
            }
            // A turn shows every place that there is.
            int ticks = Math.min(to - from + 1, turn);
            for (int tick = 1; tick < ticks; tick++) {
                int step = (first + tick) % turn;
                widen(box, 0, xs[step]);
                widen(box, 1, ys[step]);
                widen(box, 2, zs[step]);
            }
        }

        private static void widen(int[] box, int axis, int value) {
            box[axis] = Math.min(box[axis], value);
            box[axis + 3] = Math.max(box[axis + 3], value);
        }

        /** What a burn costs; NONE if there is no such burn, whatever the fuel. */
        int costOf(int kind, int d) {
            if (kind < 0 || kind >= KINDS || d < 1 || d > HEIGHT_MOST) {
                return NONE;
            }
            if (kind <= KIND_LIFT) {
                return d < turn ? Math.min(d, turn - d) : NONE;
            }
            return kind < KIND_TILT ? 2 * d : 3 * d;
        }

        /** Of the one or two d with which a kind costs so much, the lesser (0) or the greater (1); NONE without one. */
        int burnAtCost(int kind, int cost, int which) {
            if (kind <= KIND_LIFT) {
                int back = turn - cost;
                boolean isThere = which == 0 ? cost <= back : cost < back;
                return isThere ? which == 0 ? cost : back : NONE;
            }
            int each = kind < KIND_TILT ? 2 : 3;
            return which == 0 && cost % each == 0 ? cost / each : NONE;
        }

        boolean canBurn(int kind, int d) {
            int cost = costOf(kind, d);
            if (cost == NONE || cost > numbers[FUEL]) {
                return false;
            }
            switch (kind) {
                case KIND_RISE:
                    return numbers[HIGH] + d <= HEIGHT_MOST;
                case KIND_RISE + 1:
                    return numbers[LOW] - d >= 1;
                case KIND_TILT:
                    return numbers[TILT] + d <= TILT_MOST;
                case KIND_TILT + 1:
                    return numbers[TILT] - d >= 0;
                default:
                    return true;
            }
        }

        /** Burns what can be burnt; the ring is laid by who needs it. */
        void burnNow(int kind, int d) {
            numbers[FUEL] -= costOf(kind, d);
            if (kind == 0) {
                numbers[PHASE] = (numbers[PHASE] + d) % turn;
            } else if (kind == KIND_LIFT) {
                numbers[LIFT] = (numbers[LIFT] + d) % turn;
            } else if (kind < KIND_TILT) {
                int by = kind == KIND_RISE ? d : -d;
                numbers[LOW] += by;
                numbers[HIGH] += by;
            } else {
                numbers[TILT] += kind == KIND_TILT ? d : -d;
            }
        }
    }

    /** The sky as it is now. */
    private static final class Sky {
        static final int KEPT_MOST = 40;
        private static final int AT_GAP = BODIES_MOST * BODY_NUMBERS;
        private static final int AT_NOW = AT_GAP + 1;
        private static final int AT_KEPT_COUNT = AT_NOW + 1;
        private static final int AT_KEPT = AT_KEPT_COUNT + 1;
        static final int ROW_LENGTH = AT_KEPT + 2 * KEPT_MOST;

        final Body[] bodies = new Body[BODIES_MOST];
        boolean isTold;
        int count;
        int gap;
        int size;
        int now;
        int keptCount;
        final int[] keptRows = new int[2 * KEPT_MOST];
        // Grows with whatever changes, so that answers found earlier can be told from stale ones.
        int version;

        Sky() {
            for (int body = 0; body < BODIES_MOST; body++) {
                bodies[body] = new Body();
            }
        }

        boolean isBody(int body) {
            return body >= 0 && body < count;
        }

        boolean areTwo(int one, int other) {
            return isBody(one) && isBody(other) && one != other;
        }

        boolean isUp(int body) {
            return isBody(body) && bodies[body].numbers[UP] == 1;
        }

        int upBits() {
            int bits = 0;
            for (int body = 0; body < count; body++) {
                bits |= bodies[body].numbers[UP] << body;
            }
            return bits;
        }

        int bodyOfName(int name) {
            for (int body = 0; body < count; body++) {
                if (bodies[body].name == name) {
                    return body;
                }
            }
            return NONE;
        }

        int countUpAt(int height) {
            int bodiesThere = 0;
            for (int body = 0; body < count; body++) {
                int[] numbers = bodies[body].numbers;
                if (numbers[UP] == 1 && numbers[LOW] <= height && height <= numbers[HIGH]) {
                    bodiesThere++;
                }
            }
            return bodiesThere;
        }

        /** The least height with most bodies; it is LOW of one, since others have no more than the one below. */
        int crowdedHeight() {
            int most = 0;
            int best = NONE;
            for (int body = 0; body < count; body++) {
                int height = bodies[body].numbers[LOW];
                int bodiesThere = isUp(body) ? countUpAt(height) : 0;
                if (bodiesThere > most || bodiesThere == most && most > 0 && height < best) {
                    most = bodiesThere;
                    best = height;
                }
            }
            return best;
        }

        void takeFrom(SkyReader reader) {
            isTold = true;
            count = reader.count;
            gap = reader.gap;
            size = reader.size;
            now = 0;
            for (int body = 0; body < count; body++) {
                bodies[body].name = reader.names[body];
                System.arraycopy(reader.rows[body], 0, bodies[body].numbers, 0, BODY_NUMBERS);
                bodies[body].layRing();
            }
        }

        void bringDown(int bits) {
            for (int body = 0; body < count; body++) {
                if ((bits >> body & 1) == 1) {
                    bodies[body].numbers[UP] = 0;
                }
            }
            if (keptCount == KEPT_MOST) {
                System.arraycopy(keptRows, 2, keptRows, 0, 2 * KEPT_MOST - 2);
                keptCount--;
            }
            keptRows[2 * keptCount] = now;
            keptRows[2 * keptCount + 1] = bits;
            keptCount++;
        }

        void saveTo(int[] row) {
            for (int body = 0; body < count; body++) {
                System.arraycopy(bodies[body].numbers, 0, row, body * BODY_NUMBERS, BODY_NUMBERS);
            }
            row[AT_GAP] = gap;
            row[AT_NOW] = now;
            row[AT_KEPT_COUNT] = keptCount;
            System.arraycopy(keptRows, 0, row, AT_KEPT, 2 * KEPT_MOST);
        }

        void takeBackFrom(int[] row) {
            for (int body = 0; body < count; body++) {
                System.arraycopy(row, body * BODY_NUMBERS, bodies[body].numbers, 0, BODY_NUMBERS);
                bodies[body].layRing();
            }
            gap = row[AT_GAP];
            now = row[AT_NOW];
            keptCount = row[AT_KEPT_COUNT];
            System.arraycopy(row, AT_KEPT, keptRows, 0, 2 * KEPT_MOST);
        }
    }

    /** Sieves of pairs; what was found is kept until a body or the gap changes. */
    private static final class Sieves {
        private final Sky sky;
        private final int[] found = new int[BODIES_MOST * BODIES_MOST];
        private final boolean[] windowOfOne = new boolean[TURN_MOST];
        private final boolean[] windowOfOther = new boolean[TURN_MOST];

        Sieves(Sky sky) {
            this.sky = sky;
            forgetAll();
        }

        void forgetAll() {
            Arrays.fill(found, NONE);
        }

        void forgetBody(int body) {
            for (int other = 0; other < BODIES_MOST; other++) {
                found[Pairs.pairOf(body, other)] = NONE;
            }
        }

        int sieveOf(int one, int other) {
            int pair = Pairs.pairOf(one, other);
            if (found[pair] == NONE) {
                found[pair] = sift(sky.bodies[one], sky.bodies[other]);
            }
            return found[pair];
        }

        private int sift(Body one, Body other) {
            if (one.shellIsOff(other, sky.gap)) {
                return 1;
            }
            int ticksOfOne = fillWindow(windowOfOne, one, other);
            int ticksOfOther = fillWindow(windowOfOther, other, one);
            if (ticksOfOne == 0 || ticksOfOther == 0) {
                return 2;
            }
            return findCommon(one, other, 0) == NONE ? 3 : 0;
        }

        private boolean isInWindow(Body body, Body other, int tick) {
            return Math.abs(body.leanFrom(other, body.stepAt(tick))) <= 16 * sky.gap + 16;
        }

        private int fillWindow(boolean[] window, Body body, Body other) {
            int ticks = 0;
            int turn = body.turn;
            for (int tick = 0; tick < turn; tick++) {
                window[tick] = isInWindow(body, other, tick);
                ticks += window[tick] ? 1 : 0;
            }
            return ticks;
        }

        int windowTick(int body, int other, int k) {
            int ticks = fillWindow(windowOfOne, sky.bodies[body], sky.bodies[other]);
            if (k == NONE) {
                return ticks;
            }
            int turn = sky.bodies[body].turn;
            int ahead = 0;
            for (int tick = 0; tick < turn; tick++) {
                if (windowOfOne[tick] && ahead == k) {
                    return tick;
                }
                ahead += windowOfOne[tick] ? 1 : 0;
            }
            return NONE;
        }

        int commonTick(int one, int other, int k) {
            fillWindow(windowOfOne, sky.bodies[one], sky.bodies[other]);
            fillWindow(windowOfOther, sky.bodies[other], sky.bodies[one]);
            return findCommon(sky.bodies[one], sky.bodies[other], k);
        }

        /** The k-th tick that lies in both windows that were filled; how many, if k is NONE. */
        private int findCommon(Body one, Body other, int k) {
            int cycle = one.cycleWith(other);
            int turnOfOne = one.turn;
            int turnOfOther = other.turn;
            int ticks = 0;
            int inOne = 0;
            int inOther = 0;
            for (int tick = 0; tick < cycle; tick++) {
                if (windowOfOne[inOne] && windowOfOther[inOther]) {
                    if (ticks == k) {
                        return tick;
                    }
                    ticks++;
                }
                inOne = inOne + 1 < turnOfOne ? inOne + 1 : 0;
                inOther = inOther + 1 < turnOfOther ? inOther + 1 : 0;
            }
            return k == NONE ? ticks : NONE;
        }

        int countSievedBy(int sieve) {
            int sieved = 0;
            for (int one = 0; one < sky.count; one++) {
                for (int other = one + 1; other < sky.count; other++) {
                    sieved += sieveOf(one, other) == sieve ? 1 : 0;
                }
            }
            return sieved;
        }

        int remainingPair(int k) {
            int pairsAhead = 0;
            for (int one = 0; one < sky.count; one++) {
                for (int other = one + 1; other < sky.count; other++) {
                    if (sieveOf(one, other) != 0) {
                        continue;
                    }
                    if (pairsAhead == k) {
                        return Pairs.pairOf(one, other);
                    }
                    pairsAhead++;
                }
            }
            return NONE;
        }
    }

    /** How near pairs come; what was looked at is kept until one of the two bodies changes. */
    private static final class Pairs {
        private final Sky sky;
        private final int[] leastFars = new int[BODIES_MOST * BODIES_MOST];
        private final int[] closestTicks = new int[BODIES_MOST * BODIES_MOST];
        private final boolean[] nearByOffset = new boolean[TURN_MOST];
        final int[] passRow = new int[4];
        final int[] watchRow = new int[3];

        Pairs(Sky sky) {
            this.sky = sky;
            forgetAll();
        }

        void forgetAll() {
            Arrays.fill(leastFars, NONE);
        }

        void forgetBody(int body) {
            for (int other = 0; other < BODIES_MOST; other++) {
                leastFars[pairOf(body, other)] = NONE;
            }
        }

        /** One number for both ways to name a pair; such numbers rise as pairs do. */
        static int pairOf(int one, int other) {
            return Math.min(one, other) * BODIES_MOST + Math.max(one, other);
        }

        int leastFar(int one, int other) {
            int pair = pairOf(one, other);
            if (leastFars[pair] == NONE) {
                lookAt(pair, sky.bodies[one], sky.bodies[other]);
            }
            return leastFars[pair];
        }

        boolean isLookedAt(int one, int other) {
            return leastFars[pairOf(one, other)] != NONE;
        }

        int closestTick(int one, int other) {
            leastFar(one, other);
            return closestTicks[pairOf(one, other)];
        }

        private void lookAt(int pair, Body one, Body other) {
            int cycle = one.cycleWith(other);
            int turnOfOne = one.turn;
            int turnOfOther = other.turn;
            int step = one.stepAt(0);
            int otherStep = other.stepAt(0);
            int least = FAR_BEYOND;
            for (int tick = 0; tick < cycle; tick++) {
                int x = one.xs[step] - other.xs[otherStep];
                int distance = x * x < least ? one.distance(step, other, otherStep) : least;
                if (distance < least) {
                    least = distance;
                    closestTicks[pair] = tick;
                }
                step = step + 1 < turnOfOne ? step + 1 : 0;
                otherStep = otherStep + 1 < turnOfOther ? otherStep + 1 : 0;
            }
            leastFars[pair] = least;
        }

        boolean areNear(int one, int other) {
            return sky.isUp(one) && sky.isUp(other) && comeNear(one, other);
        }

        private boolean comeNear(int one, int other) {
            return !sky.bodies[one].shellIsOff(sky.bodies[other], sky.gap)
                    && leastFar(one, other) <= sky.gap * sky.gap;
        }

        /** Those that a body would be near, were it up. */
        int nearBits(int body) {
            int bits = 0;
            for (int other = 0; other < sky.count; other++) {
                if (other != body && sky.isUp(other) && comeNear(body, other)) {
                    bits |= 1 << other;
                }
            }
            return bits;
        }

        int countNear() {
            int ends = 0;
            for (int body = 0; body < sky.count; body++) {
                ends += sky.isUp(body) ? Integer.bitCount(nearBits(body)) : 0;
            }
            return ends / 2;
        }

        int leastOfGroup(int body) {
            int reached = 1 << body;
            // Each round but the last reaches one more at least.
            for (int round = 0; round < BODIES_MOST; round++) {
                int further = reached;
                for (int other = 0; other < sky.count; other++) {
                    further |= (reached >> other & 1) == 1 ? nearBits(other) : 0;
                }
                if (further == reached) {
                    break;
                }
                reached = further;
            }
            int least = 0;
            while (least < body && (reached >> least & 1) == 0) {
                least++;
            }
            return least;
        }

        int countGroups() {
            int groups = 0;
            for (int body = 0; body < sky.count; body++) {
                groups += sky.isUp(body) && leastOfGroup(body) == body ? 1 : 0;
            }
            return groups;
        }

        /** The pair at a place of the list: that with so many near ones ahead of it. */
        int pairOfRank(int rank) {
            for (int one = 0; one < sky.count; one++) {
                for (int other = one + 1; other < sky.count; other++) {
                    if (areNear(one, other) && countAheadOf(pairOf(one, other)) == rank) {
                        return pairOf(one, other);
                    }
                }
            }
            return NONE;
        }

        private int countAheadOf(int pair) {
            int pairsAhead = 0;
            for (int one = 0; one < sky.count; one++) {
                for (int other = one + 1; other < sky.count; other++) {
                    pairsAhead += areNear(one, other) && isAhead(pairOf(one, other), pair) ? 1 : 0;
                }
            }
            return pairsAhead;
        }

        private boolean isAhead(int pair, int than) {
            if (leastFars[pair] != leastFars[than]) {
                return leastFars[pair] < leastFars[than];
            }
            if (closestTicks[pair] != closestTicks[than]) {
                return closestTicks[pair] < closestTicks[than];
            }
            return pair < than;
        }

        /** How many passes two have; the k-th is left in passRow. */
        int countPasses(int first, int second, int k) {
            Body one = sky.bodies[first];
            Body other = sky.bodies[second];
            int cycle = one.cycleWith(other);
            int limit = sky.gap * sky.gap;
            int count = 0;
            boolean wasWithin = false;
            for (int tick = 0; tick < cycle; tick++) {
                int distance = one.distance(one.stepAt(tick), other, other.stepAt(tick));
                boolean isWithin = distance <= limit;
                count += isWithin && !wasWithin ? 1 : 0;
                if (isWithin && count - 1 == k) {
                    notePass(tick, distance, !wasWithin);
                }
                wasWithin = isWithin;
            }
            return count;
        }

        private void notePass(int tick, int distance, boolean begins) {
            if (begins) {
                passRow[0] = tick;
                passRow[1] = 0;
            }
            passRow[1]++;
            if (begins || distance < passRow[3]) {
                passRow[2] = tick;
                passRow[3] = distance;
            }
        }

        /** Of two whose phases are e less up to e more, each with each: by how many rows they come near. */
        int countNearRows(int first, int second, int e) {
            Body one = sky.bodies[first];
            Body other = sky.bodies[second];
            return one.shellIsOff(other, sky.gap) ? 0 : countRows(one, other, fillOffsets(one, other), e);
        }

        /** The least e by which some row comes near. */
        int leastUnsureness(int first, int second) {
            Body one = sky.bodies[first];
            Body other = sky.bodies[second];
            int shared = fillOffsets(one, other);
            for (int e = 0; e <= UNSURE_MOST; e++) {
                if (countRows(one, other, shared, e) > 0) {
                    return e;
                }
            }
            return NONE;
        }

        /** The phases matter by their difference alone, which is 2 e less up to 2 e more. */
        private int countRows(Body one, Body other, int shared, int e) {
            int offset = one.numbers[PHASE] - other.numbers[PHASE];
            int rows = 0;
            for (int by = -2 * e; by <= 2 * e; by++) {
                if (nearByOffset[Math.floorMod(offset + by, shared)]) {
                    rows += 2 * e + 1 - Math.abs(by);
                }
            }
            return rows;
        }

        /** Fills by which offsets of their steps two come near; how many offsets there are. */
        private int fillOffsets(Body one, Body other) {
            int shared = one.sharedWith(other);
            for (int offset = 0; offset < TURN_MOST; offset++) {
                nearByOffset[offset] = false;
            }
            for (int step = 0; step < one.turn; step++) {
                int offset = step % shared;
                for (int otherStep = 0; otherStep < other.turn; otherStep++) {
                    if (one.isWithin(sky.gap, step, other, otherStep)) {
                        nearByOffset[offset] = true;
                    }
                    offset = offset > 0 ? offset - 1 : shared - 1;
                }
            }
            return shared;
        }

        /** Leaves in watchRow the two that come near by most rows; false, if fewer than two are up. */
        boolean findWatched(int e) {
            watchRow[2] = NONE;
            for (int one = 0; one < sky.count; one++) {
                for (int other = one + 1; other < sky.count; other++) {
                    int rows = sky.isUp(one) && sky.isUp(other) ? countNearRows(one, other, e) : NONE;
                    if (rows > watchRow[2]) {
                        watchRow[0] = one;
                        watchRow[1] = other;
                        watchRow[2] = rows;
                    }
                }
            }
            return watchRow[2] != NONE;
        }
    }

    /** Ticks that go on in thought, and the crashes of one that goes. */
    private static final class Ahead {
        private final Sky sky;
        private final Pairs pairs;
        // Of each body the later ones that it could meet, as bits: most pairs never come so near.
        private final int[] mates = new int[BODIES_MOST];
        // At how many ticks of the latest run each body was up as they began.
        final int[] upTicks = new int[BODIES_MOST];
        private final int[] xs = new int[BODIES_MOST];
        private final int[] ys = new int[BODIES_MOST];
        private final int[] zs = new int[BODIES_MOST];
        final int[] meeting = new int[4];
        int alive;
        private int concerned;

        Ahead(Sky sky, Pairs pairs) {
            this.sky = sky;
            this.pairs = pairs;
        }

        /** Casts bodies that are up, as bits, for some ticks; pairs that can't come within so much are left out. */
        void cast(int bits, int within, int ticks) {
            alive = bits;
            for (int one = 0; one < sky.count; one++) {
                int others = (bits >> one & 1) == 1 ? bits : 0;
                mates[one] = 0;
                for (int other = one + 1; other < sky.count; other++) {
                    if ((others >> other & 1) == 1 && mayMeet(one, other, within, ticks)) {
                        mates[one] |= 1 << other;
                    }
                }
            }
            findConcerned();
        }

        /** For fewer ticks than a cycle has, it is not worth while to look at the cycle. */
        private boolean mayMeet(int one, int other, int within, int ticks) {
            Body body = sky.bodies[one];
            if (body.shellIsOff(sky.bodies[other], within)) {
                return false;
            }
            boolean isLeftOpen = !pairs.isLookedAt(one, other) && ticks < body.cycleWith(sky.bodies[other]);
            return isLeftOpen || pairs.leastFar(one, other) <= within * within;
        }

        private void findConcerned() {
            concerned = 0;
            for (int body = 0; body < sky.count; body++) {
                int others = (alive >> body & 1) == 1 ? mates[body] & alive : 0;
                concerned |= others == 0 ? 0 : others | 1 << body;
            }
        }

        /** Lets ticks go; with how many of them a body crashes, then no more go: NONE when it does not, or is NONE. */
        int run(int watched, int ticks) {
            for (int body = 0; body < sky.count; body++) {
                upTicks[body] = (alive >> body & 1) == 1 ? ticks : 0;
            }
            int awaited = watched == NONE ? (1 << BODIES_MOST) - 1 : 1 << watched;
            // Who has none left to crash with is safe, so a run may end ahead of its last tick.
            for (int tick = 0; tick < ticks && (concerned & awaited) != 0; tick++) {
                int crashing = crashingAt(sky.now + tick);
                if (crashing != 0) {
                    takeOut(crashing, tick + 1);
                }
                if (watched != NONE && (crashing & awaited) != 0) {
                    return tick + 1;
                }
            }
            return NONE;
        }

        private void takeOut(int crashing, int ticks) {
            for (int body = 0; body < sky.count; body++) {
                if ((crashing >> body & 1) == 1) {
                    upTicks[body] = ticks;
                }
            }
            alive &= ~crashing;
            findConcerned();
        }

        /** Those that crash in the tick that goes now. Pairs are not looked at ahead: phases may change at once. */
        int crashingNow() {
            alive = sky.upBits();
            for (int body = 0; body < sky.count; body++) {
                mates[body] = alive;
            }
            findConcerned();
            return crashingAt(sky.now);
        }

        private int crashingAt(int tick) {
            placeConcerned(tick);
            int limit = sky.size * sky.size;
            int crashing = 0;
            for (int one = 0; one < sky.count; one++) {
                int others = (concerned >> one & 1) == 1 ? mates[one] & concerned : 0;
                for (int other = one + 1; other < sky.count && others != 0; other++) {
                    if ((others >> other & 1) == 1 && placedDistance(one, other) <= limit) {
                        crashing |= 1 << one | 1 << other;
                    }
                }
            }
            return crashing;
        }

        private void placeConcerned(int tick) {
            for (int body = 0; body < sky.count; body++) {
                if ((concerned >> body & 1) == 1) {
                    Body placed = sky.bodies[body];
                    int step = (placed.numbers[PHASE] + tick) % placed.turn;
                    xs[body] = placed.xs[step];
                    ys[body] = placed.ys[step];
                    zs[body] = placed.zs[step];
                }
            }
        }

        private int placedDistance(int one, int other) {
            int x = xs[one] - xs[other];
            int y = ys[one] - ys[other];
            int z = zs[one] - zs[other];
            return x * x + y * y + z * z;
        }

        /** Leaves in meeting the tick, the two, and how far, of those that come near next. */
        boolean findMeeting() {
            cast(sky.upBits(), sky.gap, AHEAD_MOST);
            for (int tick = 0; tick <= AHEAD_MOST && concerned != 0; tick++) {
                placeConcerned(sky.now + tick);
                if (someMeet()) {
                    meeting[0] = sky.now + tick;
                    return true;
                }
            }
            return false;
        }

        private boolean someMeet() {
            for (int one = 0; one < sky.count; one++) {
                for (int other = one + 1; other < sky.count && mates[one] != 0; other++) {
                    if ((mates[one] >> other & 1) == 1 && placedDistance(one, other) <= sky.gap * sky.gap) {
                        meeting[1] = one;
                        meeting[2] = other;
                        meeting[3] = placedDistance(one, other);
                        return true;
                    }
                }
            }
            return false;
        }
    }

    /** Burns and phases tried in thought. The latest search is kept: its answers are asked for one by one. */
    private static final class Trials {
        private static final int SAVE = 0;
        private static final int CLEAR = 1;
        private static final int CLEAR_ALL = 2;
        private static final int CLEAR_TWO = 3;
        private static final int TWO_D_MOST = 5;
        private static final int TWO_COST_MOST = 2 * 3 * TWO_D_MOST;

        private final Sky sky;
        private final Pairs pairs;
        private final Ahead ahead;
        private final Body tried = new Body();
        // BODY, KIND, d, cost of one burn; KIND, d of the first, KIND, d of the other, cost of two.
        final int[] found = new int[5];
        private boolean isFound;
        private int latestGoal = NONE;
        private int latestBody = NONE;
        private int latestVersion = NONE;
        private int lastInTheWay;
        private final int[] lastSteps = new int[BODIES_MOST];
        // By the steps of another body: those of a body that are too near then, as bits.
        private final long[] hits = new long[TURN_MOST];

        Trials(Sky sky, Pairs pairs, Ahead ahead) {
            this.sky = sky;
            this.pairs = pairs;
            this.ahead = ahead;
        }

        /** Until a body crashes it changes nothing for the others: what it meets is how these go on without it. */
        private void runWithout(int body, int ticks) {
            ahead.cast(sky.upBits() & ~(1 << body), sky.size, ticks);
            ahead.run(NONE, ticks);
        }

        int countSafePhases(int body, int ticks) {
            runWithout(body, ticks);
            Body phased = sky.bodies[body];
            long crashing = 0;
            for (int other = 0; other < sky.count; other++) {
                Body met = sky.bodies[other];
                if (ahead.upTicks[other] > 0 && !phased.shellIsOff(met, sky.size)) {
                    fillHits(phased, met);
                    crashing |= crashingPhases(phased, met, ahead.upTicks[other]);
                }
            }
            return phased.turn - Long.bitCount(crashing);
        }

        private void fillHits(Body phased, Body met) {
            for (int metStep = 0; metStep < met.turn; metStep++) {
                hits[metStep] = 0;
                for (int step = 0; step < phased.turn; step++) {
                    if (phased.isWithin(sky.size, step, met, metStep)) {
                        hits[metStep] |= 1L << step;
                    }
                }
            }
        }

        /** The phases, as bits, that bring a body to one of its hits: these turned back by the ticks until then. */
        private long crashingPhases(Body phased, Body met, int ticks) {
            long phases = 0;
            int metStep = met.stepAt(sky.now);
            int by = sky.now % phased.turn;
            for (int tick = 0; tick < ticks; tick++) {
                phases |= hits[metStep] >>> by | hits[metStep] << phased.turn - by;
                metStep = metStep + 1 < met.turn ? metStep + 1 : 0;
                by = by + 1 < phased.turn ? by + 1 : 0;
            }
            return phases & (1L << phased.turn) - 1;
        }

        /** Whether the tried one, behind runWithout(), crashes with none. */
        private boolean isSafe() {
            for (int k = 0; k <= sky.count; k++) {
                // Who was in the way last is likely to be so again.
                int other = k == 0 ? lastInTheWay : k - 1;
                if (sky.isBody(other) && crashesWith(sky.bodies[other], ahead.upTicks[other])) {
                    lastInTheWay = other;
                    return false;
                }
            }
            return true;
        }

        private boolean crashesWith(Body met, int upTicks) {
            int ticks = tried.shellIsOff(met, sky.size) ? 0 : Math.min(upTicks, tried.cycleWith(met));
            int step = tried.stepAt(sky.now);
            int metStep = met.stepAt(sky.now);
            for (int tick = 0; tick < ticks; tick++) {
                if (tried.isWithin(sky.size, step, met, metStep)) {
                    return true;
                }
                step = step + 1 < tried.turn ? step + 1 : 0;
                metStep = metStep + 1 < met.turn ? metStep + 1 : 0;
            }
            return false;
        }

        int countNearBehind(int body, int kind, int d) {
            if (!tryOn(sky.bodies[body], kind, d)) {
                return NONE;
            }
            tried.layRing();
            int near = 0;
            for (int other = 0; other < sky.count; other++) {
                near += isInTheWay(body, other, TURN_MOST) ? 1 : 0;
            }
            return near;
        }

        private boolean tryOn(Body body, int kind, int d) {
            tried.copyFrom(body);
            if (!tried.canBurn(kind, d)) {
                return false;
            }
            tried.burnNow(kind, d);
            return true;
        }

        /** Whether another one is near the tried one at some of its steps, from where it was so last on. */
        private boolean isInTheWay(int body, int other, int steps) {
            if (other == body || !sky.isUp(other)) {
                return false;
            }
            int step = tried.stepWithin(sky.gap, sky.bodies[other], lastSteps[other], steps);
            lastSteps[other] = step == NONE ? lastSteps[other] : step;
            return step != NONE;
        }

        /** Whether the tried one is near none. A first glance at a step of each often spares the long look at all. */
        private boolean isClear(int body) {
            for (int look = 0; look < 2; look++) {
                for (int other = 0; other < sky.count; other++) {
                    if (isInTheWay(body, other, look == 0 ? 1 : TURN_MOST)) {
                        return false;
                    }
                }
            }
            return true;
        }

        boolean findSaving(int body) {
            if (isNew(SAVE, body)) {
                ahead.cast(sky.upBits(), sky.size, TRIED_AHEAD_MOST);
                boolean crashes = ahead.run(body, TRIED_AHEAD_MOST) != NONE;
                runWithout(body, TRIED_AHEAD_MOST);
                isFound = crashes && seek(1 << body, SAVE);
            }
            return isFound;
        }

        boolean findClearing(int body) {
            if (isNew(CLEAR, body)) {
                isFound = pairs.nearBits(body) != 0 && seek(1 << body, CLEAR);
            }
            return isFound;
        }

        boolean findClearingAll() {
            if (isNew(CLEAR_ALL, NONE)) {
                isFound = seek(bodiesOfEveryNearPair(), CLEAR);
            }
            return isFound;
        }

        boolean findClearingTwo(int body) {
            if (isNew(CLEAR_TWO, body)) {
                isFound = pairs.nearBits(body) != 0 && seekTwo(body);
            }
            return isFound;
        }

        private boolean isNew(int goal, int body) {
            boolean isKept = goal == latestGoal && body == latestBody && sky.version == latestVersion;
            latestGoal = goal;
            latestBody = body;
            latestVersion = sky.version;
            return !isKept;
        }

        /** A burn leaves the pairs of others as they are, so these alone can clear the list. None, if it is empty. */
        private int bodiesOfEveryNearPair() {
            int ends = 0;
            for (int body = 0; body < sky.count; body++) {
                ends += sky.isUp(body) ? Integer.bitCount(pairs.nearBits(body)) : 0;
            }
            int bits = 0;
            for (int body = 0; body < sky.count && ends > 0; body++) {
                if (sky.isUp(body) && 2 * Integer.bitCount(pairs.nearBits(body)) == ends) {
                    bits |= 1 << body;
                }
            }
            return bits;
        }

        /** Goes through burns by their cost, body, kind, d, so that the first that does is the cheapest. */
        private boolean seek(int bodyBits, int goal) {
            for (int cost = 1; cost <= Body.FUEL_MOST && bodyBits != 0; cost++) {
                for (int body = 0; body < sky.count; body++) {
                    int burns = (bodyBits >> body & 1) == 1 ? 2 * Body.KINDS : 0;
                    for (int burn = 0; burn < burns; burn++) {
                        int d = sky.bodies[body].burnAtCost(burn / 2, cost, burn % 2);
                        if (d != NONE && reaches(body, burn / 2, d, goal)) {
                            note(body, burn / 2, d, cost);
                            return true;
                        }
                    }
                }
            }
            return false;
        }

        private void note(int first, int second, int third, int fourth) {
            found[0] = first;
            found[1] = second;
            found[2] = third;
            found[3] = fourth;
        }

        private boolean reaches(int body, int kind, int d, int goal) {
            if (!tryOn(sky.bodies[body], kind, d)) {
                return false;
            }
            tried.layRing();
            return goal == SAVE ? isSafe() : isClear(body);
        }

        private boolean seekTwo(int body) {
            int fuel = sky.bodies[body].numbers[FUEL];
            for (int cost = 2; cost <= TWO_COST_MOST && cost <= fuel; cost++) {
                for (int first = 0; first < Body.KINDS * TWO_D_MOST; first++) {
                    if (seekSecond(body, first / TWO_D_MOST, first % TWO_D_MOST + 1, cost)) {
                        found[4] = cost;
                        return true;
                    }
                }
            }
            return false;
        }

        private boolean seekSecond(int body, int kind, int d, int cost) {
            Body burning = sky.bodies[body];
            int left = cost - burning.costOf(kind, d);
            if (left < 1 || !burning.canBurn(kind, d)) {
                return false;
            }
            for (int second = 0; second < Body.KINDS * TWO_D_MOST; second++) {
                int secondKind = second / TWO_D_MOST;
                int secondD = second % TWO_D_MOST + 1;
                if (burning.costOf(secondKind, secondD) != left
                        || isTriedAlready(burning, kind, d, secondKind, secondD)
                        || !tryOn(burning, kind, d) || !tried.canBurn(secondKind, secondD)) {
                    continue;
                }
                tried.burnNow(secondKind, secondD);
                tried.layRing();
                if (isClear(body)) {
                    note(kind, d, secondKind, secondD);
                    return true;
                }
            }
            return false;
        }

        /** Two burns the other way round lead to the same; if these can be and come first, they did not clear. */
        private boolean isTriedAlready(Body burning, int kind, int d, int secondKind, int secondD) {
            boolean isLater = secondKind < kind || secondKind == kind && secondD < d;
            return isLater && tryOn(burning, secondKind, secondD) && tried.canBurn(kind, d);
        }
    }

    /** What changes a sky, and how it is undone. */
    private static final class Acts {
        static final int DRAWN_TICKS = 8;
        private static final int UNDOABLE_MOST = 20;

        private final Sky sky;
        private final Sieves sieves;
        private final Pairs pairs;
        private final Ahead ahead;
        private final int[][] before = new int[UNDOABLE_MOST][Sky.ROW_LENGTH];
        private int oldest;
        int undoable;
        int seed = 1;

        Acts(Sky sky, Sieves sieves, Pairs pairs, Ahead ahead) {
            this.sky = sky;
            this.sieves = sieves;
            this.pairs = pairs;
            this.ahead = ahead;
        }

        /** Behind another sky or image: nothing is kept or can be undone. */
        void startAnew() {
            oldest = 0;
            undoable = 0;
            sky.keptCount = 0;
            changeAll();
        }

        private void changeAll() {
            sky.version++;
            sieves.forgetAll();
            pairs.forgetAll();
        }

        private void changeOne(int body) {
            sky.bodies[body].layRing();
            sieves.forgetBody(body);
            pairs.forgetBody(body);
        }

        private void begin() {
            sky.version++;
            sky.saveTo(before[(oldest + undoable) % UNDOABLE_MOST]);
            if (undoable < UNDOABLE_MOST) {
                undoable++;
            } else {
                oldest = (oldest + 1) % UNDOABLE_MOST;
            }
        }

        boolean takeBack() {
            if (undoable == 0) {
                return false;
            }
            undoable--;
            sky.takeBackFrom(before[(oldest + undoable) % UNDOABLE_MOST]);
            changeAll();
            return true;
        }

        void burnOne(int body, int kind, int d) {
            begin();
            sky.bodies[body].burnNow(kind, d);
            changeOne(body);
        }

        void raise(int body, boolean isUp) {
            begin();
            sky.bodies[body].numbers[UP] = isUp ? 1 : 0;
        }

        void widen(int gap) {
            begin();
            sky.gap = gap;
            sieves.forgetAll();
        }

        void goOn(int ticks) {
            begin();
            passTicks(ticks);
        }

        private void passTicks(int ticks) {
            for (int tick = 0; tick < ticks && sky.now < TICK_MOST; tick++) {
                int crashing = ahead.crashingNow();
                if (crashing != 0) {
                    sky.bringDown(crashing);
                }
                sky.now++;
            }
        }

        void leaveToSeed(int times) {
            begin();
            for (int time = 0; time < times; time++) {
                changeDrawn(drawOf(sky.count), drawOf(3));
                passTicks(drawOf(DRAWN_TICKS));
            }
        }

        private void changeDrawn(int body, int way) {
            int[] numbers = sky.bodies[body].numbers;
            if (way == 0) {
                numbers[UP] = 1 - numbers[UP];
                return;
            }
            numbers[way == 1 ? PHASE : LIFT] = drawOf(numbers[TURN]);
            changeOne(body);
        }

        private int drawOf(int many) {
            seed = 1103515245 * seed + 12345 & 0x7fffffff;
            return many < 1 ? 0 : seed / 64 % many;
        }
    }

    /** Rows in which a body was seen. */
    private static final class Sight {
        private static final int ROWS_MOST = 16;

        int body;
        int rows;
        int tellingTick;
        int mostLeft;
        private final int[] ticks = new int[ROWS_MOST];
        private final int[] quarters = new int[ROWS_MOST];
        private final boolean[] fitting = new boolean[TURN_MOST];
        private final int[] left = new int[4];

        boolean takeFrom(Tape tape, int seen) {
            if (tape.length < 2 || tape.length > 2 * ROWS_MOST || tape.length % 2 != 0) {
                return false;
            }
            for (int place = 1; place < tape.length; place += 2) {
                if (tape.byteAt(place) >= left.length) {
                    return false;
                }
            }
            body = seen;
            rows = tape.length / 2;
            for (int row = 0; row < rows; row++) {
                ticks[row] = tape.byteAt(2 * row);
                quarters[row] = tape.byteAt(2 * row + 1);
            }
            return true;
        }

        private static int quarterOf(Body seen, int phase, int tick) {
            int step = (phase + tick) % seen.turn;
            return (seen.xs[step] < 0 ? 1 : 0) + (seen.ys[step] < 0 ? 2 : 0);
        }

        private boolean isFitting(Body seen, int phase) {
            for (int row = 0; row < rows; row++) {
                if (quarterOf(seen, phase, ticks[row]) != quarters[row]) {
                    return false;
                }
            }
            return true;
        }

        private int findFitting(Body seen) {
            int count = 0;
            for (int phase = 0; phase < seen.turn; phase++) {
                fitting[phase] = isFitting(seen, phase);
                count += fitting[phase] ? 1 : 0;
            }
            return count;
        }

        int fittingPhase(Body seen, int k) {
            int count = findFitting(seen);
            if (k == NONE) {
                return count;
            }
            int phasesAhead = 0;
            for (int phase = 0; phase < seen.turn; phase++) {
                if (fitting[phase] && phasesAhead == k) {
                    return phase;
                }
                phasesAhead += fitting[phase] ? 1 : 0;
            }
            return NONE;
        }

        boolean findTelling(Body seen) {
            if (findFitting(seen) == 0) {
                return false;
            }
            mostLeft = TURN_MOST + 1;
            for (int tick = 0; tick < seen.turn; tick++) {
                int most = mostLeftAt(seen, tick);
                if (most < mostLeft) {
                    mostLeft = most;
                    tellingTick = tick;
                }
            }
            return true;
        }

        private int mostLeftAt(Body seen, int tick) {
            Arrays.fill(left, 0);
            int most = 0;
            for (int phase = 0; phase < seen.turn; phase++) {
                if (fitting[phase]) {
                    int quarter = quarterOf(seen, phase, tick);
                    left[quarter]++;
                    most = Math.max(most, left[quarter]);
                }
            }
            return most;
        }
    }

    /** An image of a sky, byte by byte. */
    private static final class Picture {
        private static final int[] ORDER = {UP, LOW, HIGH, PHASE, LIFT, TILT, FUEL};
        private static final int FIRST_CHECK = 173;
        private static final int CHECK_MOD = 251;

        final int[] bytes = new int[2 + BODIES_MOST * ORDER.length];
        int length;
        private final int[] row = new int[BODY_NUMBERS];

        int paint(Sky sky) {
            bytes[0] = sky.gap;
            length = 1;
            for (int body = 0; body < sky.count; body++) {
                for (int what : ORDER) {
                    bytes[length] = sky.bodies[body].numbers[what];
                    length++;
                }
            }
            int check = FIRST_CHECK;
            for (int k = 0; k < length; k++) {
                check = (3 * check + bytes[k]) % CHECK_MOD;
            }
            bytes[length] = check;
            length++;
            return length;
        }

        boolean isPainted(Tape tape, Sky sky) {
            int last = 1 + sky.count * ORDER.length;
            if (tape.length != last + 1 || tape.byteAt(0) > GAP_MOST) {
                return false;
            }
            int check = FIRST_CHECK;
            for (int k = 0; k < last; k++) {
                check = (3 * check + tape.byteAt(k)) % CHECK_MOD;
            }
            boolean isSound = tape.byteAt(last) == check;
            for (int body = 0; body < sky.count && isSound; body++) {
                readRow(tape, sky, body);
                isSound = isRowWithin();
            }
            return isSound;
        }

        /** Turn and node are not painted: they stay as the sky has them. */
        private void readRow(Tape tape, Sky sky, int body) {
            System.arraycopy(sky.bodies[body].numbers, 0, row, 0, BODY_NUMBERS);
            for (int k = 0; k < ORDER.length; k++) {
                row[ORDER[k]] = tape.byteAt(1 + body * ORDER.length + k);
            }
        }

        private boolean isRowWithin() {
            for (int what = 0; what < BODY_NUMBERS; what++) {
                if (row[what] < Body.leastOf(row, what) || row[what] > Body.mostOf(row, what)) {
                    return false;
                }
            }
            return true;
        }

        void restore(Tape tape, Sky sky) {
            sky.gap = tape.byteAt(0);
            for (int body = 0; body < sky.count; body++) {
                readRow(tape, sky, body);
                System.arraycopy(row, 0, sky.bodies[body].numbers, 0, BODY_NUMBERS);
                sky.bodies[body].layRing();
            }
        }
    }
}
