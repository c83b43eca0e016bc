import java.util.Arrays;

/** A republic kept in the air by a juggler; ../shared/DOC.md says what every call answers. */
public final class StateJuggler {
    public static final int NONE = -1;

    private static final int NOT_SO = -2;
    private static final int NO_HEIGHT_THERE = -3;
    private static final int NO_LAW_THERE = -100;
    private static final int NO_RULE_THERE = -100000;

    private static final int MOST_BYTES = 2000;
    private static final int BYTES_FED = 20;
    private static final int MOST_TOKENS = 400;
    private static final int MOST_THINGS = 7;
    private static final int MOST_PATTERNS = 5;
    private static final int MOST_HEIGHTS = 8;
    private static final int MOST_IFS = 4;
    private static final int MOST_WITHIN = 6;
    private static final int MOST_HEIGHT = 9;
    private static final int HEIGHT_WITHOUT_PATTERN = 3;
    private static final int MOST_TIRED = 999;
    private static final int MOST_UNDONE = 40;
    private static final int MOST_TOLD = 20;
    private static final int LAST_TOLD_BEAT = 40;
    private static final int LAST_BEAT_AHEAD = 60;
    private static final int LAST_BEAT_FAR_AHEAD = 200;
    private static final int MOST_BEATS_INTO = 12;
    private static final int MOST_SEEDS = 20;
    private static final int SLOTS = 3;

    private static final int UP = 0;
    private static final int LAID = 1;
    private static final int DROPPED = 2;

    private static final int LAWS = 4;
    private static final int TIRES = 0;
    private static final int DROPS = 1;
    private static final int FORCE = 2;
    private static final int PAYS = 3;

    /* What a LAW is made of: 0 and more is a number to put on the stack, below that stands one of these. */
    private static final int OP_ADD = -1;
    private static final int OP_SUBTRACT = -2;
    private static final int OP_MULTIPLY = -3;
    private static final int OP_DIVIDE = -4;
    private static final int OP_UNLESS_LESS = -5;
    private static final int OP_END = -6;
    private static final int OP_FIRST_VAR = -10;

    /* The VARs, in the order in which they stand among the words of a text. */
    private static final int VARS = 9;
    private static final int VAR_WEIGHT = 0;
    private static final int VAR_EDGE = 1;
    private static final int VAR_HEIGHT = 2;
    private static final int VAR_BEAT = 3;
    private static final int VAR_TIRED = 4;
    private static final int VAR_UP = 5;
    private static final int VAR_WHICH = 6;
    private static final int VAR_CAUGHT = 7;
    private static final int VAR_HAND = 8;

    private final Reader reader = new Reader();
    private final Juggler juggler = new Juggler();
    private final Past past = new Past();
    private final Hearsay hearsay = new Hearsay();
    private final Route route = new Route();
    private final Rows rows = new Rows();
    private final Air now = new Air();
    private final Air trial = new Air();
    private final Air[] slots = new Air[SLOTS];
    private final boolean[] held = new boolean[SLOTS];
    private final int[] hands = new int[LAST_BEAT_AHEAD + 1];
    private final int[] often = new int[MOST_THINGS];
    private final int[] joint = new int[2 * MOST_HEIGHTS];
    private Text text = new Text();
    private Text spare = new Text();

    public StateJuggler() {
        for (int slot = 0; slot < SLOTS; slot++) {
            slots[slot] = new Air();
        }
    }

    // ---- the tape and the text

    public int feed(int a, int b, int c, int d, int e) {
        if (reader.tape.size + BYTES_FED > MOST_BYTES) {
            return NONE;
        }
        reader.tape.append(a);
        reader.tape.append(b);
        reader.tape.append(c);
        reader.tape.append(d);
        reader.tape.append(e);
        return reader.tape.size;
    }

    public int back(int n) {
        if (n < 0 || n > reader.tape.size) {
            return NONE;
        }
        reader.tape.size -= n;
        return reader.tape.size;
    }

    public int read() {
        int fault = reader.readInto(spare);
        reader.tape.size = 0;
        if (fault == 0) {
            beginAnew();
        }
        return fault;
    }

    /** The text ahead is kept as the spare one, to be told anew by the next read. */
    private void beginAnew() {
        Text told = spare;
        spare = text;
        text = told;
        now.begin(text);
        past.clear();
        hearsay.size = 0;
        for (int slot = 0; slot < SLOTS; slot++) {
            held[slot] = false;
        }
    }

    public int place() {
        return reader.faultPlace;
    }

    // ---- what stands

    public int thing(int thing, int what) {
        if (!text.hasThing(thing)) {
            return NONE;
        }
        switch (what) {
            case 0:
                return text.weight[thing];
            case 1:
                return text.edge[thing];
            case 2:
                return now.where[thing];
            case 3:
                return now.isUp(thing) ? now.landsIn[thing] : NOT_SO;
            case 4:
                return now.catches[thing];
            default:
                return NONE;
        }
    }

    public int pattern(int pattern, int i) {
        if (!text.hasPattern(pattern)) {
            return NONE;
        }
        if (i == NONE) {
            return text.lengths[pattern];
        }
        return i >= 0 && i < text.lengths[pattern] ? text.heights[pattern][i] : NONE;
    }

    public int tells(int thing, int height, int what) {
        if (!text.hasThing(thing) || what < TIRES || what > PAYS) {
            return NO_LAW_THERE;
        }
        boolean thrown = what == TIRES || what == DROPS;
        if (thrown && !isHeight(height)) {
            return NO_LAW_THERE;
        }
        juggler.lookAt(text, now, thing, now.howManyUp());
        return juggler.asks(text, what, thrown ? height : 0);
    }

    public int count(int what) {
        switch (what) {
            case 0:
                return text.things;
            case 1:
                return text.patterns;
            case 2:
                return now.beat;
            case 3:
                return now.tired;
            case 4:
                return now.bitsOf(UP);
            case 5:
                return now.bitsOf(DROPPED);
            case 6:
                return now.dropped;
            case 7:
                return now.caught;
            case 8:
                return now.earned;
            case 9:
                return now.inUse == NONE ? NOT_SO : now.inUse;
            case 10:
                return now.heightBy(text);
            case 11:
                return reader.tape.size;
            case 12:
                return past.size;
            case 13:
                return hearsay.size;
            case 14:
                return slotsHeld();
            case 15:
                return weightsOf(now.bitsOf(UP));
            case 16:
                return weightsOf(now.bitsOf(DROPPED));
            case 17:
                return now.bitsOf(LAID);
            default:
                return NONE;
        }
    }

    private int slotsHeld() {
        int found = 0;
        for (int slot = 0; slot < SLOTS; slot++) {
            if (held[slot]) {
                found++;
            }
        }
        return found;
    }

    private int weightsOf(int bits) {
        int sum = 0;
        for (int thing = 0; thing < text.things; thing++) {
            if ((bits >> thing & 1) == 1) {
                sum += text.weight[thing];
            }
        }
        return sum;
    }

    private static boolean isHeight(int height) {
        return height >= 0 && height <= MOST_HEIGHT;
    }

    // ---- things done

    public boolean throwIn(int thing, int n) {
        if (!text.hasThing(thing) || now.isUp(thing) || !isHeight(n)) {
            return false;
        }
        past.keep(now);
        now.putUp(thing, n);
        return true;
    }

    public boolean use(int pattern) {
        if (!text.hasPattern(pattern)) {
            return false;
        }
        past.keep(now);
        now.takeUp(pattern);
        return true;
    }

    public boolean set(int height) {
        if (!isHeight(height) || now.byHand == height) {
            return false;
        }
        past.keep(now);
        now.byHand = height;
        return true;
    }

    public int beats(int n) {
        if (n < 0 || n > LAST_BEAT_AHEAD) {
            return NONE;
        }
        if (n > 0) {
            past.keep(now);
            juggler.goOn(text, now, n, text.seed);
        }
        return now.beat;
    }

    public boolean undo() {
        return past.giveBack(now);
    }

    public boolean hold(int slot) {
        if (slot < 0 || slot >= SLOTS) {
            return false;
        }
        slots[slot].copy(now);
        held[slot] = true;
        return true;
    }

    public boolean restore(int slot) {
        if (slot < 0 || slot >= SLOTS || !held[slot]) {
            return false;
        }
        now.copy(slots[slot]);
        past.clear();
        return true;
    }

    // ---- patterns by themselves

    public int closes(int pattern, int what) {
        if (!text.hasPattern(pattern) || what < 0 || what > 1) {
            return NONE;
        }
        return closingOf(text.heights[pattern], text.lengths[pattern], what);
    }

    public int joined(int pattern, int other, int what) {
        if (!text.hasPattern(pattern) || !text.hasPattern(other) || what < 0 || what > 1) {
            return NONE;
        }
        int length = text.lengths[pattern];
        System.arraycopy(text.heights[pattern], 0, joint, 0, length);
        System.arraycopy(text.heights[other], 0, joint, length, text.lengths[other]);
        return closingOf(joint, length + text.lengths[other], what);
    }

    private static int closingOf(int[] heights, int length, int what) {
        boolean closing = Heights.close(heights, length);
        if (what == 0) {
            return closing ? 1 : 0;
        }
        return closing ? Heights.kept(heights, length) : NOT_SO;
    }

    public int turned(int pattern, int other) {
        if (!text.hasPattern(pattern) || !text.hasPattern(other)) {
            return NONE;
        }
        int length = text.lengths[pattern];
        if (length != text.lengths[other]) {
            return NOT_SO;
        }
        return Heights.turns(text.heights[pattern], text.heights[other], length);
    }

    public int span(int pattern) {
        if (!text.hasPattern(pattern)) {
            return NONE;
        }
        return Heights.highest(text.heights[pattern], text.lengths[pattern]);
    }

    public int orbits(int pattern) {
        if (!text.hasPattern(pattern)) {
            return NONE;
        }
        int[] heights = text.heights[pattern];
        int length = text.lengths[pattern];
        return Heights.close(heights, length) ? Heights.rounds(heights, length) : NOT_SO;
    }

    public int swaps(int pattern) {
        if (!text.hasPattern(pattern)) {
            return NONE;
        }
        return Heights.pairsToSwap(text.heights[pattern], text.lengths[pattern]);
    }

    public int ways(int p, int m, int k, int i) {
        if (p < 1 || p > Rows.MOST_LONG || m < 1 || m > 7 || k < 0 || k > 7 || i < NONE || i >= p) {
            return NONE;
        }
        rows.find(p, m, k);
        if (i == NONE) {
            return rows.found;
        }
        return rows.found == 0 ? NOT_SO : rows.lowest[i];
    }

    // ---- what would be, without drops by DROPS

    public int lands() {
        return now.landingBits();
    }

    public int inHand(int n) {
        if (n < 0 || n > LAST_BEAT_AHEAD) {
            return NONE;
        }
        findHands(n + 1);
        return hands[n] == NONE ? NOT_SO : hands[n];
    }

    /** Puts into hands, for each of so many beats from now on, which THING is CAUGHT (NONE: nothing). */
    private void findHands(int beatsAhead) {
        trial.copy(now);
        for (int ahead = 0; ahead < beatsAhead && ahead < hands.length; ahead++) {
            hands[ahead] = trial.firstLanding();
            juggler.goOnSafely(text, trial);
        }
    }

    public int clash() {
        trial.copy(now);
        return firstClash(LAST_BEAT_AHEAD);
    }

    /** Behind how many beats, the last one counted in, two land in one on trial. */
    private int firstClash(int last) {
        for (int ahead = 0; ahead <= last; ahead++) {
            if (trial.howManyLand() > 1) {
                return ahead;
            }
            juggler.goOnSafely(text, trial);
        }
        return NOT_SO;
    }

    public int gap() {
        trial.copy(now);
        for (int ahead = 0; ahead <= LAST_BEAT_AHEAD; ahead++) {
            if (trial.howManyLand() == 0) {
                return ahead;
            }
            juggler.goOnSafely(text, trial);
        }
        return NOT_SO;
    }

    public int room(int thing) {
        if (!text.hasThing(thing) || now.isUp(thing)) {
            return NONE;
        }
        for (int n = 0; n <= MOST_HEIGHT; n++) {
            trial.copy(now);
            trial.putUp(thing, n);
            // the next 60 beats, this one among them
            if (firstClash(LAST_BEAT_AHEAD - 1) == NOT_SO) {
                return n;
            }
        }
        return NOT_SO;
    }

    public int into(int pattern, int i) {
        if (!text.hasPattern(pattern) || i < NONE) {
            return NONE;
        }
        int[] heights = text.heights[pattern];
        int length = text.lengths[pattern];
        if (!Heights.close(heights, length)) {
            return NONE;
        }
        boolean found = !now.twoLandAlike()
                && route.find(now.landingBits(), Heights.landingBits(heights, length));
        if (!found) {
            return i == NONE ? NOT_SO : NO_HEIGHT_THERE;
        }
        if (i == NONE) {
            return route.size;
        }
        return i < route.size ? route.heights[i] : NONE;
    }

    public int busiest(int n, int what) {
        if (!isSpan(n) || what < 0 || what > 1) {
            return NONE;
        }
        findHands(n);
        Arrays.fill(often, 0);
        for (int ahead = 0; ahead < n; ahead++) {
            if (text.hasThing(hands[ahead])) {
                often[hands[ahead]]++;
            }
        }
        int best = 0;
        for (int thing = 1; thing < MOST_THINGS; thing++) {
            if (often[thing] > often[best]) {
                best = thing;
            }
        }
        if (often[best] == 0) {
            return NOT_SO;
        }
        return what == 0 ? best : often[best];
    }

    private static boolean isSpan(int n) {
        return n >= 1 && n <= LAST_BEAT_AHEAD;
    }

    public int load(int n) {
        if (!isSpan(n)) {
            return NONE;
        }
        findHands(n);
        int sum = 0;
        for (int ahead = 0; ahead < n; ahead++) {
            if (text.hasThing(hands[ahead])) {
                sum += text.weight[hands[ahead]];
            }
        }
        return sum;
    }

    public int rule(int n) {
        if (!isSpan(n)) {
            return NO_RULE_THERE;
        }
        trial.copy(now);
        int sum = 0;
        for (int ahead = 0; ahead < n; ahead++) {
            sum += juggler.inForce(text, trial);
            juggler.goOnSafely(text, trial);
        }
        return sum;
    }

    public int order(int i) {
        if (i < 0 || i >= MOST_THINGS) {
            return NONE;
        }
        int seen = 0;
        for (int ahead = 0; ahead <= MOST_HEIGHT; ahead++) {
            for (int thing = 0; thing < now.things; thing++) {
                if (now.isUp(thing) && now.landsIn[thing] == ahead) {
                    if (seen == i) {
                        return thing;
                    }
                    seen++;
                }
            }
        }
        return NONE;
    }

    // ---- what would be, with drops by DROPS

    public int handover() {
        trial.copy(now);
        int wanting = now.bitsOf(UP);
        for (int ahead = 0; ahead <= LAST_BEAT_AHEAD; ahead++) {
            if (wanting == 0) {
                return ahead;
            }
            int caught = trial.firstLanding();
            if (caught != NONE) {
                wanting &= ~(1 << caught);
            }
            juggler.goOn(text, trial, 1, text.seed);
        }
        return NOT_SO;
    }

    public int limit(int w) {
        if (w < 0 || w > MOST_TIRED) {
            return NONE;
        }
        trial.copy(now);
        for (int ahead = 0; ahead <= LAST_BEAT_FAR_AHEAD; ahead++) {
            if (trial.tired >= w) {
                return ahead;
            }
            juggler.goOn(text, trial, 1, text.seed);
        }
        return NOT_SO;
    }

    public int down() {
        trial.copy(now);
        for (int ahead = 0; ahead <= LAST_BEAT_FAR_AHEAD; ahead++) {
            if (trial.howManyUp() == 0) {
                return ahead;
            }
            juggler.goOn(text, trial, 1, text.seed);
        }
        return NOT_SO;
    }

    public int light(int n, int what) {
        if (!isSpan(n) || what < 0 || what > 1) {
            return NONE;
        }
        int best = NOT_SO;
        int least = NOT_SO;
        for (int pattern = 0; pattern < text.patterns; pattern++) {
            if (closingOf(text.heights[pattern], text.lengths[pattern], 1) == now.howManyUp()) {
                trial.copy(now);
                trial.takeUp(pattern);
                juggler.goOn(text, trial, n, text.seed);
                if (best == NOT_SO || trial.tired < least) {
                    best = pattern;
                    least = trial.tired;
                }
            }
        }
        return what == 0 ? best : least;
    }

    public int then(int n, int what) {
        if (n < 0 || n > LAST_BEAT_AHEAD || what < 0 || what > 3) {
            return NONE;
        }
        trial.copy(now);
        juggler.goOn(text, trial, n, text.seed);
        switch (what) {
            case 0:
                return trial.tired;
            case 1:
                return trial.howManyUp();
            case 2:
                return trial.dropped - now.dropped;
            default:
                return trial.earned - now.earned;
        }
    }

    public int year(int n, int s) {
        if (n < 0 || n > LAST_BEAT_AHEAD || s < 1 || s > MOST_SEEDS) {
            return NONE;
        }
        int good = 0;
        for (int more = 0; more < s; more++) {
            trial.copy(now);
            juggler.goOn(text, trial, n, text.seed + more);
            if (trial.dropped == now.dropped) {
                good++;
            }
        }
        return good;
    }

    // ---- what glitters

    public int tell(int n, boolean hand) {
        if (n < 0 || n > LAST_TOLD_BEAT) {
            return NONE;
        }
        return hearsay.add(n, hand);
    }

    public int forget() {
        int there = hearsay.size;
        hearsay.size = 0;
        return there;
    }

    public int glitters(int k, int what) {
        if (k < 0 || k > hearsay.size || what < 0 || what > 1) {
            return NONE;
        }
        findHands(LAST_TOLD_BEAT + 1);
        int bits = hearsay.agreeing(now.bitsOf(UP), k, hands);
        return what == 0 ? Integer.bitCount(bits) : bits;
    }

    public int watch(int k) {
        if (k < 0 || k > hearsay.size) {
            return NONE;
        }
        findHands(LAST_TOLD_BEAT + 1);
        int bits = hearsay.agreeing(now.bitsOf(UP), k, hands);
        if (bits == 0) {
            return NOT_SO;
        }
        int best = 0;
        int fewest = MOST_THINGS + 1;
        for (int ahead = 0; ahead <= LAST_TOLD_BEAT; ahead++) {
            int caught = hands[ahead] == NONE ? 0 : 1 << hands[ahead];
            int left = Math.max(Integer.bitCount(bits & caught), Integer.bitCount(bits & ~caught));
            if (left < fewest) {
                fewest = left;
                best = ahead;
            }
        }
        return best;
    }

    /** What a text tells. It is made once and told anew, so that reading makes nothing. */
    private static final class Text {
        int things;
        final int[] weight = new int[MOST_THINGS];
        final int[] edge = new int[MOST_THINGS];
        final int[] start = new int[MOST_THINGS];
        int patterns;
        final int[][] heights = new int[MOST_PATTERNS][MOST_HEIGHTS];
        final int[] lengths = new int[MOST_PATTERNS];
        /* All LAWS one behind the other; of each, where it begins. One told again leaves its old code unused. */
        final int[] code = new int[MOST_TOKENS + 2 * LAWS];
        int codeSize;
        final int[] lawAt = new int[LAWS];
        int rests;
        int seed;

        Text() {
            clear();
        }

        void clear() {
            things = 0;
            patterns = 0;
            rests = 1;
            seed = 0;
            codeSize = 0;
            for (int law = 0; law < LAWS; law++) {
                lawAt[law] = codeSize;
                emit(law == FORCE ? OP_FIRST_VAR - VAR_EDGE : 0);
                emit(OP_END);
            }
        }

        /** A LAW never makes more of these than it has TOKENS, for which there is room. */
        void emit(int op) {
            if (codeSize < code.length) {
                code[codeSize] = op;
                codeSize++;
            }
        }

        boolean hasThing(int thing) {
            return thing >= 0 && thing < things;
        }

        boolean hasPattern(int pattern) {
            return pattern >= 0 && pattern < patterns;
        }
    }

    /** The bytes fed, and the TOKENS they are cut into. */
    private static final class Tape {
        /* A TOKEN's kind: the number of its word here, one of the kinds behind them, or a SIGN's own byte. */
        private static final String WORDS = "thing pattern tires drops force pays rests seed if then else weight edge height beat tired up which caught hand ";
        private static final int THING = 0;
        private static final int PATTERN = 1;
        private static final int FIRST_LAW = 2;
        private static final int LAST_LAW = 5;
        private static final int RESTS = 6;
        private static final int SEED = 7;
        private static final int IF = 8;
        private static final int THEN = 9;
        private static final int ELSE = 10;
        private static final int FIRST_VAR = 11;
        private static final int LAST_VAR = 19;
        private static final int NAME = 20;
        private static final int INT = 21;
        private static final int TEXT_END = 22;
        private static final int NO_TOKEN = 23;
        private static final String SIGNS = ";=+-*/<()";
        private static final int LONGEST_NAME = 8;
        private static final int LONGEST_INT = 4;

        private final int[] bytes = new int[MOST_BYTES];
        int size;
        /* One TOKEN more than there is room for: whether the one too many is SYNTAX or ROOM must be seen. */
        final int[] kinds = new int[MOST_TOKENS + 1];
        final int[] places = new int[MOST_TOKENS + 1];
        final long[] values = new long[MOST_TOKENS + 1];
        private int at;

        void append(int word) {
            for (int shift = 24; shift >= 0; shift -= 8) {
                if (size < MOST_BYTES) {
                    bytes[size] = word >>> shift & 255;
                    size++;
                }
            }
        }

        /** Cuts the bytes into TOKENS, up to the text's end or to what is no TOKEN; nothing goes on behind these. */
        void cut() {
            at = 0;
            int kind = NONE;
            for (int i = 0; i <= MOST_TOKENS && kind != TEXT_END && kind != NO_TOKEN; i++) {
                while (at < size && isBlank(bytes[at])) {
                    at++;
                }
                places[i] = at;
                kind = cutOne(i);
                kinds[i] = kind;
            }
        }

        private int cutOne(int i) {
            if (at >= size) {
                return TEXT_END;
            }
            if (isLetter(bytes[at])) {
                return cutWord(i);
            }
            if (isDigit(bytes[at])) {
                return cutInt(i);
            }
            int sign = bytes[at];
            at++;
            return SIGNS.indexOf((char) sign) >= 0 ? sign : NO_TOKEN;
        }

        private int cutWord(int i) {
            int start = at;
            long value = 0;
            while (at < size && isLetter(bytes[at])) {
                // 26 letters to the base of 27: names of 8 at most never share a value
                value = value * 27 + (bytes[at] - 'a' + 1);
                at++;
            }
            values[i] = value;
            int word = wordAt(start, at - start);
            if (word != NONE) {
                return word;
            }
            return at - start <= LONGEST_NAME ? NAME : NO_TOKEN;
        }

        private int cutInt(int i) {
            int start = at;
            long value = 0;
            while (at < size && isDigit(bytes[at])) {
                value = value * 10 + (bytes[at] - '0');
                at++;
            }
            values[i] = value;
            return at - start <= LONGEST_INT ? INT : NO_TOKEN;
        }

        /** The number of the word that stands there, or NONE. */
        private int wordAt(int from, int length) {
            int word = 0;
            int matched = 0;
            for (int i = 0; i < WORDS.length(); i++) {
                char sign = WORDS.charAt(i);
                if (sign == ' ') {
                    if (matched == length) {
                        return word;
                    }
                    word++;
                    matched = 0;
                } else if (matched >= 0 && matched < length && bytes[from + matched] == sign) {
                    matched++;
                } else {
                    matched = NONE;
                }
            }
            return NONE;
        }

        private static boolean isBlank(int sign) {
            return sign == 9 || sign == 10 || sign == 13 || sign == 32;
        }

        private static boolean isLetter(int sign) {
            return sign >= 'a' && sign <= 'z';
        }

        private static boolean isDigit(int sign) {
            return sign >= '0' && sign <= '9';
        }
    }

    /** Reads a tape into a text: one pass, from the first TOKEN on, so the first FAULT met is the first by place. */
    private static final class Reader {
        private static final int SYNTAX = 1;
        private static final int NO_ROOM = 2;
        private static final int TWICE = 3;
        private static final int WRONG = 5;

        final Tape tape = new Tape();
        int faultPlace = NONE;
        private int fault;
        private int laterFault;
        private int laterPlace;
        /* Which TOKEN is ahead, of which kind it is, and what the one taken last was worth. */
        private int ahead;
        private int kind;
        private int took;
        private final long[] names = new long[MOST_THINGS + MOST_PATTERNS];
        private int nameCount;

        /** 0, or the FAULT, whose place is faultPlace then; with a FAULT the text is of no use. */
        int readInto(Text text) {
            text.clear();
            nameCount = 0;
            fault = 0;
            faultPlace = NONE;
            laterFault = 0;
            laterPlace = NONE;
            tape.cut();
            ahead = 0;
            kind = tape.kinds[0];
            boolean good = true;
            for (int tellings = 0; good && kind != Tape.TEXT_END && tellings <= MOST_TOKENS; tellings++) {
                good = telling(text);
            }
            if (fault == 0 && laterFault != 0) {
                fault = laterFault;
                faultPlace = laterPlace;
            }
            return fault;
        }

        /** Goes past the TOKEN ahead if it is of the kind that is due. SYNTAX comes before ROOM at one place. */
        private boolean take(int due) {
            if (kind != due) {
                return refuse(SYNTAX);
            }
            if (ahead < 0 || ahead >= MOST_TOKENS) {
                return refuse(NO_ROOM);
            }
            took = (int) tape.values[ahead];
            ahead++;
            kind = tape.kinds[ahead];
            return true;
        }

        private boolean refuse(int found) {
            fault = found;
            faultPlace = tape.places[ahead];
            return false;
        }

        /** TWICE and WRONG, of the TOKEN ahead, count only in a text without SYNTAX and ROOM: they wait for its end. */
        private void noteLater(int found) {
            if (laterFault == 0) {
                laterFault = found;
                laterPlace = tape.places[ahead];
            }
        }

        private boolean takeNumber(int least, int most) {
            long value = tape.values[ahead];
            if (kind == Tape.INT && (value < least || value > most)) {
                noteLater(WRONG);
            }
            return take(Tape.INT);
        }

        private boolean takeName() {
            long name = tape.values[ahead];
            for (int i = 0; i < nameCount; i++) {
                if (kind == Tape.NAME && names[i] == name) {
                    noteLater(TWICE);
                }
            }
            if (nameCount < names.length) {
                names[nameCount] = name;
                nameCount++;
            }
            return take(Tape.NAME);
        }

        private boolean telling(Text text) {
            if (kind == Tape.THING) {
                return tellingThing(text);
            }
            if (kind == Tape.PATTERN) {
                return tellingPattern(text);
            }
            if (kind >= Tape.FIRST_LAW && kind <= Tape.LAST_LAW) {
                return tellingLaw(text, kind);
            }
            if (kind == Tape.RESTS) {
                boolean good = take(Tape.RESTS) && takeNumber(0, 99);
                text.rests = took;
                return good && take(';');
            }
            if (kind == Tape.SEED) {
                boolean good = take(Tape.SEED) && takeNumber(0, 9999);
                text.seed = took;
                return good && take(';');
            }
            return refuse(SYNTAX);
        }

        private boolean tellingThing(Text text) {
            int thing = text.things;
            if (thing >= MOST_THINGS) {
                return refuse(NO_ROOM);
            }
            if (!take(Tape.THING) || !takeName() || !takeNumber(1, 9)) {
                return false;
            }
            text.weight[thing] = took;
            if (!takeNumber(0, 9)) {
                return false;
            }
            text.edge[thing] = took;
            if (!takeNumber(0, MOST_HEIGHT)) {
                return false;
            }
            text.start[thing] = took;
            text.things++;
            return take(';');
        }

        private boolean tellingPattern(Text text) {
            int pattern = text.patterns;
            if (pattern >= MOST_PATTERNS) {
                return refuse(NO_ROOM);
            }
            if (!take(Tape.PATTERN) || !takeName() || !takeNumber(0, MOST_HEIGHT)) {
                return false;
            }
            text.heights[pattern][0] = took;
            int length = 1;
            while (kind == Tape.INT && length < MOST_HEIGHTS) {
                if (!takeNumber(0, MOST_HEIGHT)) {
                    return false;
                }
                text.heights[pattern][length] = took;
                length++;
            }
            if (kind == Tape.INT) {
                return refuse(NO_ROOM);
            }
            text.lengths[pattern] = length;
            text.patterns++;
            return take(';');
        }

        private boolean tellingLaw(Text text, int word) {
            text.lawAt[word - Tape.FIRST_LAW] = text.codeSize;
            if (!take(word) || !take('=')) {
                return false;
            }
            for (int ifs = 0; kind == Tape.IF && ifs < MOST_IFS; ifs++) {
                if (!condition(text)) {
                    return false;
                }
            }
            if (kind == Tape.IF) {
                return refuse(NO_ROOM);
            }
            if (!expression(text, 0)) {
                return false;
            }
            text.emit(OP_END);
            return take(';');
        }

        private boolean condition(Text text) {
            if (!take(Tape.IF) || !expression(text, 0) || !take('<') || !expression(text, 0) || !take(Tape.THEN)) {
                return false;
            }
            text.emit(OP_UNLESS_LESS);
            int target = text.codeSize;
            text.emit(0);
            if (!expression(text, 0) || !take(Tape.ELSE)) {
                return false;
            }
            text.emit(OP_END);
            if (target < text.code.length) {
                text.code[target] = text.codeSize;
            }
            return true;
        }

        private boolean expression(Text text, int within) {
            boolean good = product(text, within);
            for (int more = 0; good && (kind == '+' || kind == '-') && more < MOST_TOKENS; more++) {
                int sign = kind;
                good = take(sign) && product(text, within);
                text.emit(sign == '+' ? OP_ADD : OP_SUBTRACT);
            }
            return good;
        }

        private boolean product(Text text, int within) {
            boolean good = unit(text, within);
            for (int more = 0; good && (kind == '*' || kind == '/') && more < MOST_TOKENS; more++) {
                int sign = kind;
                good = take(sign) && unit(text, within);
                text.emit(sign == '*' ? OP_MULTIPLY : OP_DIVIDE);
            }
            return good;
        }

        private boolean unit(Text text, int within) {
            if (kind == Tape.INT) {
                boolean good = take(Tape.INT);
                text.emit(took);
                return good;
            }
            if (kind >= Tape.FIRST_VAR && kind <= Tape.LAST_VAR) {
                text.emit(OP_FIRST_VAR - (kind - Tape.FIRST_VAR));
                return take(kind);
            }
            if (kind == '(' && within >= MOST_WITHIN) {
                return refuse(NO_ROOM);
            }
            return take('(') && expression(text, within + 1) && take(')');
        }
    }

    /** All that goes on: the beat, the THINGS, the PATTERN in use, and what has come of it so far. */
    private static final class Air {
        int things;
        final int[] where = new int[MOST_THINGS];
        final int[] landsIn = new int[MOST_THINGS];
        final int[] catches = new int[MOST_THINGS];
        int beat;
        int tired;
        int dropped;
        int caught;
        int earned;
        int inUse = NONE;
        int sinceBeat;
        int byHand = NONE;

        void begin(Text text) {
            things = text.things;
            Arrays.fill(where, UP);
            Arrays.fill(catches, 0);
            System.arraycopy(text.start, 0, landsIn, 0, MOST_THINGS);
            beat = 0;
            tired = 0;
            dropped = 0;
            caught = 0;
            earned = 0;
            inUse = text.patterns > 0 ? 0 : NONE;
            sinceBeat = 0;
            byHand = NONE;
        }

        void copy(Air other) {
            things = other.things;
            System.arraycopy(other.where, 0, where, 0, MOST_THINGS);
            System.arraycopy(other.landsIn, 0, landsIn, 0, MOST_THINGS);
            System.arraycopy(other.catches, 0, catches, 0, MOST_THINGS);
            beat = other.beat;
            tired = other.tired;
            dropped = other.dropped;
            caught = other.caught;
            earned = other.earned;
            inUse = other.inUse;
            sinceBeat = other.sinceBeat;
            byHand = other.byHand;
        }

        boolean isUp(int thing) {
            return where[thing] == UP;
        }

        boolean landsNow(int thing) {
            return where[thing] == UP && landsIn[thing] == 0;
        }

        void putUp(int thing, int n) {
            where[thing] = UP;
            landsIn[thing] = n;
        }

        void takeUp(int pattern) {
            inUse = pattern;
            sinceBeat = beat;
        }

        void drop(int thing) {
            where[thing] = DROPPED;
            dropped++;
        }

        int bitsOf(int place) {
            int bits = 0;
            for (int thing = 0; thing < things; thing++) {
                if (where[thing] == place) {
                    bits |= 1 << thing;
                }
            }
            return bits;
        }

        int howManyUp() {
            return Integer.bitCount(bitsOf(UP));
        }

        int howManyLand() {
            int found = 0;
            for (int thing = 0; thing < things; thing++) {
                if (landsNow(thing)) {
                    found++;
                }
            }
            return found;
        }

        /** The THING that is CAUGHT in this beat, or NONE. */
        int firstLanding() {
            for (int thing = 0; thing < things; thing++) {
                if (landsNow(thing)) {
                    return thing;
                }
            }
            return NONE;
        }

        int landingBits() {
            int bits = 0;
            for (int thing = 0; thing < things; thing++) {
                if (isUp(thing)) {
                    bits |= 1 << landsIn[thing];
                }
            }
            return bits;
        }

        boolean twoLandAlike() {
            return Integer.bitCount(landingBits()) < howManyUp();
        }

        int heightBy(Text text) {
            if (byHand != NONE) {
                return byHand;
            }
            if (!text.hasPattern(inUse) || text.lengths[inUse] < 1) {
                return HEIGHT_WITHOUT_PATTERN;
            }
            return text.heights[inUse][Math.floorMod(beat - sinceBeat, text.lengths[inUse])];
        }
    }

    /** Lets BEATS go by, and asks the LAWS. */
    private static final class Juggler {
        private static final int SAFE = -1;

        private final Asked asked = new Asked();

        /** n BEATS with drops by that SEED. */
        void goOn(Text text, Air air, int n, int seed) {
            for (int i = 0; i < n; i++) {
                oneBeat(text, air, seed);
            }
        }

        /** A beat without drops by DROPS. */
        void goOnSafely(Text text, Air air) {
            oneBeat(text, air, SAFE);
        }

        /** What is in force of the THING that is CAUGHT in this beat; 0 if there is none. */
        int inForce(Text text, Air air) {
            int first = air.firstLanding();
            if (first == NONE) {
                return 0;
            }
            lookAt(text, air, first, air.howManyUp() - (air.howManyLand() - 1));
            return asks(text, FORCE, 0);
        }

        private void oneBeat(Text text, Air air, int seed) {
            int first = air.firstLanding();
            if (first == NONE) {
                air.tired = Math.max(0, air.tired - text.rests);
            } else {
                for (int thing = first + 1; thing < air.things; thing++) {
                    if (air.landsNow(thing)) {
                        air.drop(thing);
                    }
                }
                lookAt(text, air, first, air.howManyUp());
                catchOne(text, air, first, seed);
            }
            for (int thing = 0; thing < air.things; thing++) {
                if (air.isUp(thing)) {
                    air.landsIn[thing]--;
                }
            }
            air.beat++;
            air.byHand = NONE;
        }

        private void catchOne(Text text, Air air, int thing, int seed) {
            int height = air.heightBy(text);
            if (seed != SAFE && lot(100, seed, 4 * air.beat) < asks(text, DROPS, height)) {
                air.drop(thing);
                return;
            }
            air.earned += asks(text, PAYS, 0);
            air.tired = Math.min(MOST_TIRED, air.tired + asks(text, TIRES, height));
            air.caught++;
            air.catches[thing]++;
            air.landsIn[thing] = height;
            if (height == 0) {
                air.where[thing] = LAID;
            }
        }

        /** What the LAWS are asked of from here on, as it is now. */
        void lookAt(Text text, Air air, int thing, int up) {
            asked.vars[VAR_WEIGHT] = text.weight[thing];
            asked.vars[VAR_EDGE] = text.edge[thing];
            asked.vars[VAR_BEAT] = air.beat;
            asked.vars[VAR_TIRED] = air.tired;
            asked.vars[VAR_UP] = up;
            asked.vars[VAR_WHICH] = thing;
            asked.vars[VAR_CAUGHT] = air.caught;
            asked.vars[VAR_HAND] = air.beat & 1;
        }

        int asks(Text text, int law, int height) {
            asked.vars[VAR_HEIGHT] = height;
            int told = asked.answer(text.code, text.lawAt[law]);
            switch (law) {
                case DROPS:
                    return Math.max(0, Math.min(100, told));
                case FORCE:
                    return Math.max(-99, Math.min(99, told));
                default:
                    return Math.max(0, Math.min(99, told));
            }
        }

        private static int lot(int n, int seed, int which) {
            int mixed = stir(stir(seed, 125), which);
            return n < 1 ? 0 : (mixed >>> 1) % n;
        }

        private static int stir(int mixed, int more) {
            int next = (mixed ^ more) * 1103515245 + 12345;
            return next ^ next >>> 15;
        }
    }

    /** Works out a LAW on a stack, by the VARs as they are put here. */
    private static final class Asked {
        /* Six ( within one another need 16: two waiting of each, the last three, one of a comparison. */
        private static final int DEEPEST = 32;

        final int[] vars = new int[VARS];
        private final int[] stack = new int[DEEPEST];
        private int top;
        private boolean failed;

        /** What the LAW that begins there tells; all jumps go on ahead, so it comes to its end. */
        int answer(int[] code, int begin) {
            top = 0;
            failed = false;
            int at = begin;
            for (int step = 0; step < code.length && at >= 0 && at < code.length && !failed; step++) {
                int op = code[at];
                at++;
                if (op >= 0) {
                    push(op);
                } else if (op <= OP_FIRST_VAR && op > OP_FIRST_VAR - VARS) {
                    push(vars[OP_FIRST_VAR - op]);
                } else if (op == OP_END) {
                    int result = pop();
                    return failed ? 0 : result;
                } else {
                    int right = pop();
                    int left = pop();
                    if (op != OP_UNLESS_LESS) {
                        push(reckon(op, left, right));
                    } else if (left < right || at >= code.length) {
                        at++;
                    } else {
                        at = code[at];
                    }
                }
            }
            return 0;
        }

        private int reckon(int op, int left, int right) {
            switch (op) {
                case OP_ADD:
                    return left + right;
                case OP_SUBTRACT:
                    return left - right;
                case OP_MULTIPLY:
                    return left * right;
                default:
                    failed = failed || right == 0;
                    return right == 0 ? 0 : left / right;
            }
        }

        private void push(int number) {
            if (top >= DEEPEST) {
                failed = true;
            } else {
                stack[top] = number;
                top++;
            }
        }

        private int pop() {
            if (top < 1) {
                failed = true;
                return 0;
            }
            top--;
            return stack[top];
        }
    }

    /** The last things done, each as it was ahead of it: a ring, so that the oldest goes first. */
    private static final class Past {
        private final Air[] ring = new Air[MOST_UNDONE];
        private int next;
        int size;

        Past() {
            for (int i = 0; i < MOST_UNDONE; i++) {
                ring[i] = new Air();
            }
        }

        void clear() {
            size = 0;
        }

        void keep(Air air) {
            ring[next].copy(air);
            next = (next + 1) % MOST_UNDONE;
            size = Math.min(MOST_UNDONE, size + 1);
        }

        boolean giveBack(Air air) {
            if (size == 0) {
                return false;
            }
            next = (next + MOST_UNDONE - 1) % MOST_UNDONE;
            air.copy(ring[next]);
            size--;
            return true;
        }
    }

    /** What was TOLD of the THING that glitters. */
    private static final class Hearsay {
        private final int[] ahead = new int[MOST_TOLD];
        private final boolean[] wasInHand = new boolean[MOST_TOLD];
        int size;

        int add(int n, boolean hand) {
            if (size >= MOST_TOLD) {
                return NONE;
            }
            ahead[size] = n;
            wasInHand[size] = hand;
            size++;
            return size - 1;
        }

        /** Those of the THINGS (bits) of which the first k are so, by what is in hand when. */
        int agreeing(int bits, int k, int[] hands) {
            int left = bits;
            for (int i = 0; i < k && i < size; i++) {
                int thing = ahead[i] < hands.length ? hands[ahead[i]] : NONE;
                int caught = thing == NONE ? 0 : 1 << thing;
                left &= wasInHand[i] ? caught : ~caught;
            }
            return left;
        }
    }

    /** What can be said of a row of HEIGHTS, gone on with for ever. */
    private static final class Heights {
        static boolean close(int[] heights, int length) {
            int taken = 0;
            for (int i = 0; i < length; i++) {
                int bit = 1 << (i + heights[i]) % length;
                if ((taken & bit) != 0) {
                    return false;
                }
                taken |= bit;
            }
            return true;
        }

        static int kept(int[] heights, int length) {
            int sum = 0;
            for (int i = 0; i < length; i++) {
                sum += heights[i];
            }
            return length < 1 ? 0 : sum / length;
        }

        static int highest(int[] heights, int length) {
            int most = 0;
            for (int i = 0; i < length; i++) {
                most = Math.max(most, heights[i]);
            }
            return most;
        }

        /** By how many HEIGHTS, taken from the beginning to the end, the one becomes the other, as long. */
        static int turns(int[] one, int[] other, int length) {
            for (int turn = 0; turn < length; turn++) {
                boolean alike = true;
                for (int i = 0; i < length; i++) {
                    alike = alike && one[(i + turn) % length] == other[i];
                }
                if (alike) {
                    return turn;
                }
            }
            return NOT_SO;
        }

        /** How many rows of throws go back into themselves, of HEIGHTS that CLOSE. */
        static int rounds(int[] heights, int length) {
            int seen = 0;
            int found = 0;
            for (int i = 0; i < length; i++) {
                if ((seen >> i & 1) == 0) {
                    found++;
                    int at = i;
                    for (int step = 0; step < length; step++) {
                        seen |= 1 << at;
                        at = (at + heights[at]) % length;
                    }
                }
            }
            return found;
        }

        static int pairsToSwap(int[] heights, int length) {
            int found = 0;
            for (int j = 1; j < length; j++) {
                for (int i = 0; i < j; i++) {
                    if (isHeight(heights[j] + j - i) && isHeight(heights[i] - (j - i))) {
                        found++;
                    }
                }
            }
            return found;
        }

        /** The beats (bits) in which something lands just at the first HEIGHT, the row gone on with for ever. */
        static int landingBits(int[] heights, int length) {
            int bits = 0;
            for (int ago = 1; ago <= MOST_HEIGHT && length > 0; ago++) {
                int ahead = heights[Math.floorMod(-ago, length)] - ago;
                if (ahead >= 0) {
                    bits |= 1 << ahead;
                }
            }
            return bits;
        }
    }

    /**
     * The fewest throws from some landing beats (bits) to others. Breadth first and the lowest HEIGHT first, so the
     * first way that comes to a state is the one of lowest HEIGHTS among the shortest.
     */
    private static final class Route {
        private static final int STATES = 1 << MOST_HEIGHT + 1;

        private final int[] queue = new int[STATES];
        private int tail;
        /* Of each state: from which one it is come to (NONE: not yet), and by which HEIGHT. */
        private final int[] from = new int[STATES];
        private final int[] by = new int[STATES];
        final int[] heights = new int[MOST_BEATS_INTO];
        int size;

        boolean find(int start, int goal) {
            if (start < 0 || start >= STATES || goal < 0 || goal >= STATES) {
                return false;
            }
            Arrays.fill(from, NONE);
            tail = 0;
            meet(start, start, 0);
            int head = 0;
            for (size = 0; size < MOST_BEATS_INTO && from[goal] == NONE; size++) {
                int end = tail;
                for (; head < end; head++) {
                    goOnFrom(queue[head]);
                }
            }
            if (from[goal] == NONE) {
                return false;
            }
            int state = goal;
            for (int i = size - 1; i >= 0; i--) {
                heights[i] = by[state];
                state = from[state];
            }
            return true;
        }

        private void goOnFrom(int state) {
            int next = state >> 1;
            if ((state & 1) == 0) {
                meet(next, state, 0);
                return;
            }
            for (int height = 1; height <= MOST_HEIGHT; height++) {
                int bit = 1 << height - 1;
                if ((next & bit) == 0) {
                    meet(next | bit, state, height);
                }
            }
        }

        private void meet(int state, int before, int height) {
            if (from[state] == NONE && tail < STATES) {
                from[state] = before;
                by[state] = height;
                queue[tail] = state;
                tail++;
            }
        }
    }

    /** How many rows of HEIGHTS CLOSE and keep so many, and the lowest of them. */
    private static final class Rows {
        private static final int MOST_LONG = 5;

        private final int[] row = new int[MOST_LONG];
        final int[] lowest = new int[MOST_LONG];
        int found;
        private int length;
        private int highest;

        void find(int p, int m, int k) {
            length = Math.max(1, Math.min(p, MOST_LONG));
            highest = m;
            found = 0;
            fill(0, 0, length * k);
        }

        /** The rows come from the lowest on, so the first one that is found is the lowest. */
        private void fill(int i, int taken, int left) {
            if (i >= length) {
                if (left == 0) {
                    finish();
                }
                return;
            }
            for (int height = 0; height <= highest && height <= left; height++) {
                int bit = 1 << (i + height) % length;
                if ((taken & bit) == 0) {
                    row[i] = height;
                    fill(i + 1, taken | bit, left - height);
                }
            }
        }

        private void finish() {
            if (found == 0) {
                System.arraycopy(row, 0, lowest, 0, length);
            }
            found++;
        }
    }
}
