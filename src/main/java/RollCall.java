/**
 * A roll call on one wire: strangers with names of 64 bits, found by bits, by beginnings, by
 * counters or in frames. The words in capitals are the terms of the document.
 */
public final class RollCall {
    public static final int NONE = -1;

    private static final int MOST_TAGS = 40;
    private static final int MOST_FOUND = 200;
    private static final int MOST_IMAGES = 4;
    private static final int MOST_SLOTS = 64;
    private static final int NAME_BITS = 64;
    private static final int SUMMED_BITS = 56;
    private static final int SUM_BITS = 8;

    // Each bit of a row leaves at most one row waiting under the topmost one.
    private static final int MOST_ROWS = NAME_BITS + 1;

    private static final int BIT = 0;
    private static final int ASKED = 1;
    private static final int SLOTTED = 2;
    private static final int SPLIT = 3;
    private static final int SLEEPER = 4;
    private static final int WEAK = 5;

    private static final int COPPER = 0;
    private static final int AIR = 1;

    private static final int QUIET = 0;
    private static final int ALONE = 1;
    private static final int COLLISION = 2;

    private static final int GO = 0;
    private static final int COME_BACK = 1;
    private static final int WAKE_UP = 2;
    private static final int FALL_ASLEEP = 3;

    // What is told at a bit when some tell 0 and some 1.
    private static final int BOTH = 2;

    private final State now;
    private final State[] images;

    // Rows to work in, made once, so that no call makes new ones.
    private final Slot slot;
    private final StillIn still;
    private final Questions questions;
    private final int[] drawn;

    public RollCall() {
        now = new State();
        images = new State[MOST_IMAGES];
        slot = new Slot();
        still = new StillIn();
        questions = new Questions();
        drawn = new int[MOST_TAGS];
    }

    // ---- tags and the wire

    public boolean wire(int kind) {
        if (kind != COPPER && kind != AIR) {
            return false;
        }
        now.wireKind = kind;
        return true;
    }

    public int tag(int kind, long name, int seed) {
        if (kind < BIT || kind > WEAK) {
            return NONE;
        }
        return now.tags.make(kind, withSum(name), seed);
    }

    public long name(int tag) {
        return now.tags.has(tag) ? now.tags.names[tag] : 0L;
    }

    public boolean isName(long name) {
        return sumOf(name) == (name & 255L);
    }

    public int tell(int tag, int what) {
        Tags tags = now.tags;
        if (!tags.has(tag)) {
            return NONE;
        }
        switch (what) {
            case 0:
                return tags.kinds[tag];
            case 1:
                return oneIf(tags.there[tag]);
            case 2:
                return oneIf(tags.awake[tag]);
            case 3:
                return oneIf(tags.listens(tag));
            case 4:
                return tags.counters[tag];
            case 5:
                return tags.seeds[tag];
            case 6:
                return now.foundRow.timesOf(tag);
            default:
                return NONE;
        }
    }

    public boolean act(int tag, int what) {
        Tags tags = now.tags;
        if (!tags.has(tag)) {
            return false;
        }
        switch (what) {
            case GO:
                return tags.setThere(tag, false);
            case COME_BACK:
                return tags.setThere(tag, true);
            case WAKE_UP:
                return tags.setAwake(tag, true);
            case FALL_ASLEEP:
                return tags.kinds[tag] == SLEEPER && tags.setAwake(tag, false);
            default:
                return false;
        }
    }

    public int group(long mask, long bits) {
        now.tags.mask = mask;
        now.tags.groupBits = bits & mask;
        return now.tags.listeners();
    }

    // ---- by bits

    public int pass() {
        Tags tags = now.tags;
        PassRow row = now.passRow;
        int lastZero = NONE;
        int bit = 0;
        still.gather(tags);
        for (; bit < NAME_BITS && still.size > 0; bit++) {
            int way = still.told(tags, bit);
            if (way == BOTH) {
                way = row.wayAtFork(bit);
                if (way == 0) {
                    lastZero = bit;
                }
            }
            still.keep(tags, bit, way);
        }
        payForBits(bit);
        int tag = still.first();
        if (tag == NONE) {
            row.startOver();
            return NONE;
        }
        row.passed(tags.names[tag], lastZero);
        now.foundRow.put(tag);
        return tag;
    }

    public int fork(int what) {
        switch (what) {
            case 0:
                return now.passRow.lastFork;
            case 1:
                return now.passRow.passes;
            default:
                return NONE;
        }
    }

    public boolean verify(long name) {
        Tags tags = now.tags;
        int bit = 0;
        still.gather(tags);
        for (; bit < NAME_BITS && still.size > 0; bit++) {
            still.keep(tags, bit, bitOf(name, bit));
        }
        payForBits(bit);
        return still.size > 0;
    }

    private void payForBits(int bits) {
        now.passSlots += 1 + 3 * bits;
    }

    // ---- by beginnings

    public int ask(long bits, int n) {
        if (n < 0 || n > NAME_BITS) {
            return NONE;
        }
        return question(bits, n);
    }

    public int alone() {
        return now.latestAlone;
    }

    public void descend() {
        now.pile.startOver();
    }

    public int step() {
        Pile pile = now.pile;
        if (pile.size <= 0) {
            return NONE;
        }
        pile.size--;
        long bits = pile.rows[pile.size];
        int length = pile.lengths[pile.size];
        int sound = question(bits, length);
        if (sound == ALONE) {
            now.foundRow.put(now.latestAlone);
        } else if (sound == COLLISION) {
            pile.putLonger(bits, length);
        }
        return sound;
    }

    public int nodes() {
        questions.gather(now.tags);
        return questions.inDescent(slot, now.wireKind);
    }

    private int question(long bits, int n) {
        Tags tags = now.tags;
        slot.clear();
        for (int t = 0; t < tags.size; t++) {
            if (tags.answersQuestions(t) && sameBeginning(tags.names[t], bits, n)) {
                slot.speak(t, tags.isWeak(t));
            }
        }
        return hearSlot();
    }

    private int hearSlot() {
        int sound = slot.sound(now.wireKind);
        now.costs.add(sound);
        now.latestAlone = slot.speaker(now.wireKind);
        return sound;
    }

    // ---- by counters, in frames

    public int begin() {
        now.callerCount = 0;
        return now.tags.startCounters();
    }

    public int split() {
        if (now.callerCount < 0) {
            return NONE;
        }
        Tags tags = now.tags;
        slot.clear();
        for (int t = 0; t < tags.size; t++) {
            if (tags.countsNow(t) && tags.counters[t] == 0) {
                slot.speak(t, tags.isWeak(t));
            }
        }
        int sound = hearSlot();
        if (sound == COLLISION) {
            tags.splitCounters();
            now.callerCount++;
        } else {
            takeCounted(now.latestAlone);
            tags.lowerCounters();
            now.callerCount--;
        }
        return sound;
    }

    public void frames() {
        now.tags.forgetFrames();
    }

    public int frame(int length) {
        if (length < 1 || length > MOST_SLOTS) {
            return NONE;
        }
        drawSlots(length);
        now.frameSlots.clear();
        for (int s = 0; s < length; s++) {
            hearFrameSlot(s);
        }
        now.guess = guessFor(now.frameSlots.collisions);
        return now.frameSlots.alone;
    }

    public int heard(int what) {
        return what == 3 ? now.guess : now.frameSlots.of(what);
    }

    private void takeCounted(int tag) {
        if (now.tags.has(tag)) {
            now.tags.counters[tag] = NONE;
            putFoundToSleep(tag);
        }
    }

    private void drawSlots(int length) {
        Tags tags = now.tags;
        for (int t = 0; t < tags.size; t++) {
            drawn[t] = tags.speaksInFrames(t) ? tags.draw(t, length) : NONE;
        }
    }

    private void hearFrameSlot(int s) {
        Tags tags = now.tags;
        slot.clear();
        for (int t = 0; t < tags.size; t++) {
            if (drawn[t] == s) {
                slot.speak(t, tags.isWeak(t));
            }
        }
        int sound = slot.sound(now.wireKind);
        now.costs.add(sound);
        now.frameSlots.add(sound);
        int tag = slot.speaker(now.wireKind);
        if (tags.has(tag)) {
            tags.framed[tag] = true;
            putFoundToSleep(tag);
        }
    }

    private void putFoundToSleep(int tag) {
        now.foundRow.put(tag);
        if (now.tags.kinds[tag] == SLEEPER) {
            now.tags.awake[tag] = false;
        }
    }

    private static int guessFor(int collisions) {
        int guess = (int) (2.39f * collisions);
        return Math.max(1, Math.min(MOST_SLOTS, guess));
    }

    // ---- what is told

    public int found(int k) {
        FoundRow row = now.foundRow;
        return k >= 0 && k < row.size ? row.tags[k] : NONE;
    }

    public int cost(int what) {
        switch (what) {
            case 3:
                return now.passSlots;
            case 4:
                return now.costs.all() + now.passSlots;
            default:
                return now.costs.of(what);
        }
    }

    public int count(int what) {
        switch (what) {
            case 0:
                return now.tags.size;
            case 1:
                return now.tags.listeners();
            case 2:
                return now.foundRow.size;
            case 3:
                return now.pile.size;
            case 4:
                return now.callerCount;
            default:
                return NONE;
        }
    }

    public boolean image(int k) {
        if (k < 0 || k >= MOST_IMAGES) {
            return false;
        }
        if (images[k] == null) {
            images[k] = new State();
        }
        images[k].copyFrom(now);
        return true;
    }

    public boolean again(int k) {
        if (k < 0 || k >= MOST_IMAGES || images[k] == null) {
            return false;
        }
        now.copyFrom(images[k]);
        return true;
    }

    // ---- names and their bits

    private static int oneIf(boolean so) {
        return so ? 1 : 0;
    }

    private static int bitOf(long name, int bit) {
        return (int) (name >>> (NAME_BITS - 1 - bit)) & 1;
    }

    private static boolean sameBeginning(long a, long b, int n) {
        // Java shifts by 64 as by 0, so the empty beginning is a case of its own.
        return n == 0 || (a ^ b) >>> (NAME_BITS - n) == 0L;
    }

    private static long withSum(long number) {
        long first = number << SUM_BITS;
        return first | sumOf(first);
    }

    private static long sumOf(long name) {
        int sum = 0;
        for (int bit = 0; bit < SUMMED_BITS; bit++) {
            int fellOut = sum >>> (SUM_BITS - 1);
            sum = (sum << 1) & 255;
            if (fellOut != bitOf(name, bit)) {
                sum ^= 49;
            }
        }
        return sum;
    }

    /** All that is told: what an image holds. */
    private static final class State {
        final Tags tags = new Tags();
        final PassRow passRow = new PassRow();
        final Pile pile = new Pile();
        final FoundRow foundRow = new FoundRow();
        final Tally costs = new Tally();
        final Tally frameSlots = new Tally();
        int wireKind = COPPER;
        int passSlots = 0;
        int latestAlone = NONE;
        int callerCount = NONE;
        int guess = 0;

        void copyFrom(State other) {
            tags.copyFrom(other.tags);
            passRow.copyFrom(other.passRow);
            pile.copyFrom(other.pile);
            foundRow.copyFrom(other.foundRow);
            costs.copyFrom(other.costs);
            frameSlots.copyFrom(other.frameSlots);
            wireKind = other.wireKind;
            passSlots = other.passSlots;
            latestAlone = other.latestAlone;
            callerCount = other.callerCount;
            guess = other.guess;
        }
    }

    /** The TAGS and the GROUP, which together say who LISTENS. */
    private static final class Tags {
        final int[] kinds = new int[MOST_TAGS];
        final long[] names = new long[MOST_TAGS];
        final int[] seeds = new int[MOST_TAGS];
        final boolean[] there = new boolean[MOST_TAGS];
        final boolean[] awake = new boolean[MOST_TAGS];
        final int[] counters = new int[MOST_TAGS];
        final boolean[] framed = new boolean[MOST_TAGS];
        int size = 0;
        long mask = 0L;
        long groupBits = 0L;

        boolean has(int tag) {
            return tag >= 0 && tag < size;
        }

        int make(int kind, long name, int seed) {
            if (size >= MOST_TAGS || isTaken(name)) {
                return NONE;
            }
            int tag = size;
            kinds[tag] = kind;
            names[tag] = name;
            seeds[tag] = seed;
            there[tag] = true;
            awake[tag] = kind != SLEEPER;
            counters[tag] = NONE;
            framed[tag] = false;
            size++;
            return tag;
        }

        private boolean isTaken(long name) {
            for (int t = 0; t < size; t++) {
                if (names[t] == name) {
                    return true;
                }
            }
            return false;
        }

        boolean setThere(int tag, boolean so) {
            boolean changes = there[tag] != so;
            there[tag] = so;
            return changes;
        }

        boolean setAwake(int tag, boolean so) {
            boolean changes = awake[tag] != so;
            awake[tag] = so;
            return changes;
        }

        boolean listens(int tag) {
            return there[tag] && awake[tag] && (names[tag] & mask) == groupBits;
        }

        int listeners() {
            int listening = 0;
            for (int t = 0; t < size; t++) {
                listening += oneIf(listens(t));
            }
            return listening;
        }

        boolean isWeak(int tag) {
            return kinds[tag] == WEAK;
        }

        boolean answersQuestions(int tag) {
            return kinds[tag] >= ASKED && listens(tag);
        }

        boolean speaksInFrames(int tag) {
            return kinds[tag] >= SLOTTED && !framed[tag] && listens(tag);
        }

        boolean countsNow(int tag) {
            return counters[tag] != NONE && listens(tag);
        }

        private boolean isSplit(int tag) {
            return kinds[tag] == SPLIT || kinds[tag] == SLEEPER;
        }

        int draw(int tag, int n) {
            int seed = 1103515245 * seeds[tag] + 12345;
            seeds[tag] = seed;
            return n > 0 ? (seed >>> 16) % n : 0;
        }

        int startCounters() {
            int counting = 0;
            for (int t = 0; t < size; t++) {
                boolean takesPart = isSplit(t) && listens(t);
                counters[t] = takesPart ? 0 : NONE;
                counting += oneIf(takesPart);
            }
            return counting;
        }

        void splitCounters() {
            for (int t = 0; t < size; t++) {
                if (countsNow(t)) {
                    counters[t] = counters[t] == 0 ? draw(t, 2) : counters[t] + 1;
                }
            }
        }

        void lowerCounters() {
            for (int t = 0; t < size; t++) {
                if (countsNow(t)) {
                    counters[t] = Math.max(0, counters[t] - 1);
                }
            }
        }

        void forgetFrames() {
            for (int t = 0; t < size; t++) {
                framed[t] = false;
            }
        }

        void copyFrom(Tags other) {
            for (int t = 0; t < other.size; t++) {
                kinds[t] = other.kinds[t];
                names[t] = other.names[t];
                seeds[t] = other.seeds[t];
                there[t] = other.there[t];
                awake[t] = other.awake[t];
                counters[t] = other.counters[t];
                framed[t] = other.framed[t];
            }
            size = other.size;
            mask = other.mask;
            groupBits = other.groupBits;
        }
    }

    /** What the next PASS has to know of the latest one. */
    private static final class PassRow {
        int lastFork = NONE;
        long lastName = 0L;
        int passes = 0;

        int wayAtFork(int bit) {
            if (bit < lastFork) {
                return bitOf(lastName, bit);
            }
            return oneIf(bit == lastFork);
        }

        void passed(long name, int fork) {
            if (fork == NONE) {
                startOver();
                return;
            }
            lastFork = fork;
            lastName = name;
            passes++;
        }

        void startOver() {
            lastFork = NONE;
            lastName = 0L;
            passes = 0;
        }

        void copyFrom(PassRow other) {
            lastFork = other.lastFork;
            lastName = other.lastName;
            passes = other.passes;
        }
    }

    /** The rows of bits that a DESCENT has still to ask; empty when none is under way. */
    private static final class Pile {
        final long[] rows = new long[MOST_ROWS];
        final int[] lengths = new int[MOST_ROWS];
        int size = 0;

        void startOver() {
            size = 0;
            put(0L, 0);
        }

        void putLonger(long bits, int length) {
            if (length < NAME_BITS) {
                put(bits | 1L << (NAME_BITS - 1 - length), length + 1);
                put(bits, length + 1);
            }
        }

        private void put(long bits, int length) {
            if (size < MOST_ROWS) {
                rows[size] = bits;
                lengths[size] = length;
                size++;
            }
        }

        void copyFrom(Pile other) {
            System.arraycopy(other.rows, 0, rows, 0, MOST_ROWS);
            System.arraycopy(other.lengths, 0, lengths, 0, MOST_ROWS);
            size = other.size;
        }
    }

    /** The row of FOUND. */
    private static final class FoundRow {
        final int[] tags = new int[MOST_FOUND];
        int size = 0;

        void put(int tag) {
            if (size < MOST_FOUND) {
                tags[size] = tag;
                size++;
            }
        }

        int timesOf(int tag) {
            int times = 0;
            for (int k = 0; k < size; k++) {
                times += oneIf(tags[k] == tag);
            }
            return times;
        }

        void copyFrom(FoundRow other) {
            System.arraycopy(other.tags, 0, tags, 0, MOST_FOUND);
            size = other.size;
        }
    }

    /** How many slots of each kind there were. */
    private static final class Tally {
        int quiet = 0;
        int alone = 0;
        int collisions = 0;

        void clear() {
            quiet = 0;
            alone = 0;
            collisions = 0;
        }

        void add(int sound) {
            if (sound == QUIET) {
                quiet++;
            } else if (sound == ALONE) {
                alone++;
            } else {
                collisions++;
            }
        }

        int of(int what) {
            switch (what) {
                case QUIET:
                    return quiet;
                case ALONE:
                    return alone;
                case COLLISION:
                    return collisions;
                default:
                    return NONE;
            }
        }

        int all() {
            return quiet + alone + collisions;
        }

        void copyFrom(Tally other) {
            quiet = other.quiet;
            alone = other.alone;
            collisions = other.collisions;
        }
    }

    /** Who speaks in one SLOT, and how that is heard. */
    private static final class Slot {
        private int strong = 0;
        private int weak = 0;
        private int strongTag = NONE;
        private int weakTag = NONE;

        void clear() {
            strong = 0;
            weak = 0;
            strongTag = NONE;
            weakTag = NONE;
        }

        void speak(int tag, boolean isWeak) {
            if (isWeak) {
                weak++;
                weakTag = tag;
            } else {
                strong++;
                strongTag = tag;
            }
        }

        int sound(int wireKind) {
            int speakers = strong + weak;
            if (speakers == 0) {
                return QUIET;
            }
            // In AIR one strong voice drowns all weak ones.
            if (speakers == 1 || wireKind == AIR && strong == 1) {
                return ALONE;
            }
            return COLLISION;
        }

        int speaker(int wireKind) {
            if (sound(wireKind) != ALONE) {
                return NONE;
            }
            return strong == 1 ? strongTag : weakTag;
        }
    }

    /** The TAGS that are still in while names are called bit by bit. */
    private static final class StillIn {
        private final int[] in = new int[MOST_TAGS];
        int size = 0;

        void gather(Tags tags) {
            size = 0;
            for (int t = 0; t < tags.size; t++) {
                if (tags.listens(t)) {
                    in[size] = t;
                    size++;
                }
            }
        }

        int told(Tags tags, int bit) {
            int ones = 0;
            for (int i = 0; i < size; i++) {
                ones += bitOf(tags.names[in[i]], bit);
            }
            if (ones == 0) {
                return 0;
            }
            return ones == size ? 1 : BOTH;
        }

        void keep(Tags tags, int bit, int way) {
            int kept = 0;
            for (int i = 0; i < size; i++) {
                if (bitOf(tags.names[in[i]], bit) == way) {
                    in[kept] = in[i];
                    kept++;
                }
            }
            size = kept;
        }

        int first() {
            return size > 0 ? in[0] : NONE;
        }
    }

    /**
     * Counts the questions of a DESCENT without asking them: every row with a COLLISION brings two
     * more, so all rows of one length are looked at in one walk over the names in their order.
     */
    private static final class Questions {
        private final long[] names = new long[MOST_TAGS];
        private final boolean[] weak = new boolean[MOST_TAGS];
        private int size = 0;

        void gather(Tags tags) {
            size = 0;
            for (int t = 0; t < tags.size; t++) {
                if (tags.answersQuestions(t)) {
                    insert(tags.names[t], tags.isWeak(t));
                }
            }
        }

        private void insert(long name, boolean isWeak) {
            int place = size;
            // Any order will do that has equal beginnings side by side, that of signed numbers too.
            while (place > 0 && name < names[place - 1]) {
                names[place] = names[place - 1];
                weak[place] = weak[place - 1];
                place--;
            }
            names[place] = name;
            weak[place] = isWeak;
            size++;
        }

        int inDescent(Slot slot, int wireKind) {
            int asked = 1;
            for (int n = 0; n < NAME_BITS && size > 0; n++) {
                asked += 2 * collisionsOf(n, slot, wireKind);
            }
            return asked;
        }

        /** Who is in no COLLISION is asked no further, so only the others are kept. */
        private int collisionsOf(int n, Slot slot, int wireKind) {
            int collisions = 0;
            int kept = 0;
            int first = 0;
            slot.clear();
            for (int i = 0; i < size; i++) {
                slot.speak(i, weak[i]);
                boolean isLast = i + 1 == size || !sameBeginning(names[i], names[i + 1], n);
                if (isLast) {
                    if (slot.sound(wireKind) == COLLISION) {
                        collisions++;
                        kept = moveDown(first, i, kept);
                    }
                    first = i + 1;
                    slot.clear();
                }
            }
            size = kept;
            return collisions;
        }

        private int moveDown(int first, int last, int to) {
            int kept = to;
            for (int i = first; i <= last; i++) {
                names[kept] = names[i];
                weak[kept] = weak[i];
                kept++;
            }
            return kept;
        }
    }
}
