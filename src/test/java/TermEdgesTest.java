/** Each sentence of the document's terms 1 to 6 that names an edge, with a test of its own. */
public final class TermEdgesTest extends Words {
    // The bit of a NAME that tells numbers 2 and 3 from 0 and 1.
    private static final long BIT_OF_TWO = 2L << 8;

    private TermEdgesTest() {
    }

    public static void main(String[] args) {
        calls();
        tags();
        draws();
        slots();
        passes();
        beginnings();
        counters();
        framesOfSlots();
        foundAndCost();
        Check.end();
    }

    private static void sentence(int term, String words) {
        Check.about("term " + term + ": " + words);
    }

    // ---- ahead of the terms

    private static void calls() {
        passesUpToTheLastCall();
        framesUpToTheLastCall();
        splitUpToTheLastCall();
    }

    private static void passesUpToTheLastCall() {
        Check.about("An object is used for at most 512 calls: passes");
        RollCall x = withTags(BIT, 1L);
        for (int call = 2; call <= 510; call++) {
            due("pass", x.pass(), 0);
        }
        due("call 511", x.cost(3), 509 * 193);
        due("call 512", x.count(2), 200);
    }

    private static void framesUpToTheLastCall() {
        Check.about("An object is used for at most 512 calls: frames");
        RollCall x = new RollCall();
        for (int call = 1; call <= 511; call++) {
            due("frame", x.frame(64), 0);
        }
        due("call 512", x.cost(0), 511 * 64);
    }

    private static void splitUpToTheLastCall() {
        Check.about("An object is used for at most 512 calls: two that always draw alike");
        RollCall x = new RollCall();
        x.tag(SPLIT, 1L, 7);
        x.tag(SPLIT, 2L, 7);
        x.begin();
        for (int call = 4; call <= 506; call++) {
            due("none is ever alone", x.split() == ALONE, false);
        }
        due("call 507", x.tell(0, 4), x.tell(1, 4));
        due("call 509: one more each collision, one less each quiet slot", x.count(4), x.cost(2) - x.cost(0));
        due("call 512", x.count(2), 0);
    }

    // ---- term 1

    private static void tags() {
        atMostFortyFromZero();
        bitZeroIsTheHighest();
        sumOfTheBitsAhead();
        sumStaysAByte();
        kindsFromBitToWeak();
        thereFromItsMakingOn();
        sleeperIsAsleepAtFirst();
        listensOnlyIfThere();
        listensOnlyIfAwake();
        listensOnlyInTheGroup();
        maskOfZeroAtFirst();
        maskOfEveryBit();
    }

    private static void atMostFortyFromZero() {
        sentence(1, "TAGS (at most 40, from 0 on)");
        RollCall x = new RollCall();
        due("none yet", x.tell(0, 0), NONE);
        for (int t = 0; t < 40; t++) {
            due("tag", x.tag(ASKED, t, 0), t);
        }
        due("the 41st", x.tag(ASKED, 40L, 0), NONE);
        due("the first", x.tell(0, 0), ASKED);
        due("the last", x.tell(39, 0), ASKED);
        due("behind the last", x.tell(40, 0), NONE);
        due("how many", x.count(0), 40);
    }

    private static void bitZeroIsTheHighest() {
        sentence(1, "a NAME of 64 bits, bit 0 the first and highest one");
        RollCall x = withTags(ASKED, FIRST, 1L);
        due("its highest bit", x.name(0) < 0L, true);
        due("by the first bit 1", x.ask(FIRST_OF_NAME, 1), ALONE);
        due("that", x.alone(), 0);
        due("by the first bit 0", x.ask(0L, 1), ALONE);
        due("that", x.alone(), 1);
        x.pass();
        due("they part at bit 0", x.fork(0), 0);
    }

    private static void sumOfTheBitsAhead() {
        sentence(1, "A NAME's last 8 bits are the SUM of the 56 ahead: 0 at first, 49 for a bit");
        RollCall x = withTags(BIT, 0L, 1L, 2L, FIRST, 0x31323334353637L);
        due("no bit", x.name(0), 0L);
        due("the last bit alone", x.name(1), 0x131L);
        due("the last but one", x.name(2), 0x262L);
        due("the first bit alone", x.name(3), 0x80000000000000BCL);
        due("many", x.name(4), 0x31323334353637D7L);
    }

    private static void sumStaysAByte() {
        sentence(1, "a byte: it is shifted left by one, its lowest bit 0; the bit that fell out");
        RollCall x = withTags(BIT, 0x80L, 0xFFL, ONES);
        // 31, 62, C4, B9, 43, 86, 3D, 7A: bits fall out behind C4, B9 and 86.
        due("bits that fell out", x.name(0), 0x807AL);
        due("a byte of ones", x.name(1), 0xFFACL);
        due("all ones", x.name(2), 0xFFFFFFFFFFFFFF28L);
    }

    private static void kindsFromBitToWeak() {
        sentence(1, "KINDS: 0 BIT .. 5 WEAK");
        RollCall x = new RollCall();
        due("below", x.tag(-1, 9L, 0), NONE);
        for (int kind = BIT; kind <= WEAK; kind++) {
            due("tag", x.tag(kind, kind, 0), kind);
            due("kind", x.tell(kind, 0), kind);
        }
        due("above", x.tag(6, 9L, 0), NONE);
    }

    private static void thereFromItsMakingOn() {
        sentence(1, "A TAG is THERE (from its making on) or went");
        for (int kind = BIT; kind <= WEAK; kind++) {
            RollCall x = withTags(kind, 1L);
            due("there", x.tell(0, 1), 1);
            x.act(0, GO);
            due("went", x.tell(0, 1), 0);
        }
    }

    private static void sleeperIsAsleepAtFirst() {
        sentence(1, "it is AWAKE, but a SLEEPER is ASLEEP at first");
        for (int kind = BIT; kind <= WEAK; kind++) {
            RollCall x = withTags(kind, 1L);
            due("awake, kind " + kind, x.tell(0, 2), kind == SLEEPER ? 0 : 1);
            due("listens, kind " + kind, x.count(1), kind == SLEEPER ? 0 : 1);
        }
    }

    private static void listensOnlyIfThere() {
        sentence(1, "It LISTENS if it is THERE");
        RollCall x = withAwake(SLEEPER, 1L);
        due("there", x.tell(0, 3), 1);
        x.act(0, GO);
        due("went", x.tell(0, 3), 0);
        due("how many", x.count(1), 0);
        due("no answer", x.ask(0L, 0), QUIET);
        due("not found", x.pass(), NONE);
        x.act(0, COME_BACK);
        due("back", x.tell(0, 3), 1);
    }

    private static void listensOnlyIfAwake() {
        sentence(1, "It LISTENS if it is AWAKE");
        RollCall x = withTags(SLEEPER, 1L);
        due("asleep", x.tell(0, 3), 0);
        due("no answer", x.ask(0L, 0), QUIET);
        due("not found", x.pass(), NONE);
        x.act(0, WAKE_UP);
        due("awake", x.tell(0, 3), 1);
        due("an answer", x.ask(0L, 0), ALONE);
        x.act(0, FALL_ASLEEP);
        due("asleep again", x.tell(0, 3), 0);
    }

    private static void listensOnlyInTheGroup() {
        sentence(1, "It LISTENS if its NAME, under the GROUP's mask, is the GROUP's bits");
        RollCall x = withTags(SPLIT, 1L);
        due("in it", x.group(-1L, 305L), 1);
        due("listens", x.tell(0, 3), 1);
        due("one bit is another", x.group(-1L, 304L), 0);
        due("listens not", x.tell(0, 3), 0);
        due("no answer", x.ask(0L, 0), QUIET);
        due("not found", x.pass(), NONE);
        due("no counter", x.begin(), 0);
        due("not in a frame", x.frame(1), 0);
        due("not called by its name", x.verify(305L), false);
        due("but there", x.tell(0, 1), 1);
        due("that bit is beyond the mask", x.group(-2L, 304L), 1);
    }

    private static void maskOfZeroAtFirst() {
        sentence(1, "(a mask of 0 at first: all)");
        RollCall x = withTags(BIT, 0L, ONES, FIRST, 1L);
        due("all", x.count(1), 4);
        due("a mask of 0", x.group(0L, -1L), 4);
    }

    private static void maskOfEveryBit() {
        sentence(1, "a mask of one bit, from the first to the last");
        RollCall x = withTags(BIT, 0L, ONES);
        long ones = 0xFFFFFFFFFFFFFF28L;
        for (int bit = 0; bit < 64; bit++) {
            long mask = FIRST_OF_NAME >>> bit;
            int withOne = (ones & mask) == 0L ? 0 : 1;
            due("bit " + bit + " is 1", x.group(mask, -1L), withOne);
            due("bit " + bit + " is 0", x.group(mask, 0L), 2 - withOne);
        }
    }

    private static void draws() {
        seedWrapsAround();
        shiftedWithoutItsSign();
        restByOne();
        restBySixtyFour();
    }

    private static void seedWrapsAround() {
        sentence(1, "the SEED becomes 1103515245 times itself and 12345 (32 bits)");
        int[] seeds = {0, 1, 2, 3, -1, MAX, MIN, 12345};
        int[] next = {
            12345, 1103527590, -2087924461, -984409216, -1103502900, 1043980748, -2147471303,
            -740551042,
        };
        for (int i = 0; i < seeds.length; i++) {
            RollCall x = withSeeds(SLOTTED, seeds[i]);
            due("at first", x.tell(0, 5), seeds[i]);
            x.frame(9);
            due("after a draw of " + seeds[i], x.tell(0, 5), next[i]);
        }
    }

    private static void shiftedWithoutItsSign() {
        sentence(1, "and of this, shifted right by 16 without its sign, the rest by n");
        // Draws of 0, 50515, 48697, 15929, 32768 and 33676; the signs of three of them are set.
        RollCall x = withSeeds(SPLIT, 0, 3, -1, MAX, MIN, 2);
        x.begin();
        due("all", x.split(), COLLISION);
        int[] counters = {0, 1, 1, 1, 0, 0};
        for (int t = 0; t < counters.length; t++) {
            due("counter of " + t, x.tell(t, 4), counters[t]);
        }
    }

    private static void restByOne() {
        sentence(1, "a number below 1");
        for (int seed : new int[] {0, 3, -1, MAX, MIN}) {
            due("seed " + seed, withSeeds(SLOTTED, seed).frame(1), 1);
        }
    }

    private static void restBySixtyFour() {
        sentence(1, "a number below 64: each of them");
        for (int from = 0; from <= 24; from += 24) {
            RollCall x = new RollCall();
            for (int t = 0; t < 40; t++) {
                x.tag(SLOTTED, t, seedForSlot(from + 39 - t));
            }
            due("all in slots of their own", x.frame(64), 40);
            for (int k = 0; k < 40; k++) {
                due("in the order of the slots", x.found(k), 39 - k);
            }
        }
    }

    private static void slots() {
        wireIsOfCopperAtFirst();
        sounds(COPPER, new int[][] {{QUIET, ALONE, COLLISION}, {ALONE, COLLISION, COLLISION},
            {COLLISION, COLLISION, COLLISION}});
        sounds(AIR, new int[][] {{QUIET, ALONE, COLLISION}, {ALONE, ALONE, ALONE},
            {COLLISION, COLLISION, COLLISION}});
    }

    private static void wireIsOfCopperAtFirst() {
        sentence(1, "The WIRE is of COPPER (0; at first)");
        RollCall x = new RollCall();
        x.tag(WEAK, 1L, 0);
        x.tag(ASKED, 2L, 0);
        due("a weak one is heard", x.ask(0L, 0), COLLISION);
        due("nodes", x.nodes() > 1, true);
    }

    /** At [s][w] how a slot sounds in which s that are not WEAK speak, and w that are. */
    private static void sounds(int wire, int[][] sound) {
        for (int strong = 0; strong < 3; strong++) {
            for (int weak = 0; weak < 3; weak++) {
                soundOf(wire, strong, weak, sound[strong][weak], false);
                soundOf(wire, strong, weak, sound[strong][weak], true);
            }
        }
    }

    private static void soundOf(int wire, int strong, int weak, int want, boolean weakFirst) {
        sentence(1, "A SLOT is QUIET .. ALONE .. else a COLLISION: wire " + wire + ", " + strong
                + " not WEAK, " + weak + " WEAK, " + (weakFirst ? "WEAK" : "others") + " first");
        RollCall x = new RollCall();
        for (int t = 0; t < strong + weak; t++) {
            boolean isWeak = weakFirst ? t < weak : t >= strong;
            x.tag(isWeak ? WEAK : SLOTTED, t, 0);
        }
        x.wire(wire);
        boolean voiceIsFirst = strong == 0 || !weakFirst;
        int voice = want != ALONE ? NONE : voiceIsFirst ? 0 : weak;
        due("ask", x.ask(0L, 0), want);
        due("who", x.alone(), voice);
        due("one question or more", x.nodes() == 1, want != COLLISION);
        x.descend();
        due("step", x.step(), want);
        due("who", x.alone(), voice);
        due("found", x.found(0), voice);
        due("frame", x.frame(1), want == ALONE ? 1 : 0);
        due("of that sound", x.heard(want), 1);
        due("found", x.found(want == ALONE ? 1 : 0), voice);
        due("slots of that sound", x.cost(want), 3);
    }

    // ---- term 2

    private static void passes() {
        anyKindOnEitherWire();
        slotsOfAPass();
        allTellOneBit();
        allTellZeroAtTheLastFork();
        aheadOfTheLastForkAsFoundThen();
        newForkAheadOfTheLastFork();
        behindTheLastForkZero();
        nobodyAtTheBeginning();
        nobodyAnyMore();
        lastForkOfEveryBit();
        lastForkIsOneWithWayZero();
        withoutOneTheRowIsOver();
        firstPassTakesZeros();
    }

    private static void anyKindOnEitherWire() {
        sentence(2, "a PASS finds one of those that LISTEN (any KIND), on either WIRE");
        for (int kind = BIT; kind <= WEAK; kind++) {
            for (int wire = COPPER; wire <= AIR; wire++) {
                RollCall x = withAwake(kind, 6L);
                x.tag(WEAK, 5L, 0);
                x.tag(ASKED, 7L, 0);
                x.wire(wire);
                due("the weak one", x.pass(), 1);
                due("kind " + kind, x.pass(), 0);
                due("the third", x.pass(), 2);
                due("over", x.fork(0), NONE);
            }
        }
    }

    private static void slotsOfAPass() {
        sentence(2, "in 193 slots (one to begin, three for each bit)");
        RollCall x = withTags(BIT, ONES);
        x.pass();
        due("one tag", x.cost(3), 193);
        for (int t = 1; t < 40; t++) {
            x.tag(BIT, t, 0);
        }
        x.pass();
        due("forty tags", x.cost(3), 386);
    }

    private static void allTellOneBit() {
        sentence(2, "if all tell one, that is the way");
        RollCall x = withTags(BIT, ONES);
        due("ones all along", x.pass(), 0);
        due("no fork", x.fork(0), NONE);
        RollCall y = withTags(BIT, FIRST, FIRST | 2L);
        due("1, then the fork", y.pass(), 0);
        due("only where they part", y.fork(0), 54);
    }

    private static void allTellZeroAtTheLastFork() {
        sentence(2, "if all tell one, that is the way: 0 at the LAST FORK too");
        RollCall x = withTags(BIT, 0L, FIRST);
        x.pass();
        due("last fork", x.fork(0), 0);
        x.act(1, GO);
        due("the same once more", x.pass(), 0);
        due("no fork", x.fork(0), NONE);
    }

    private static void aheadOfTheLastForkAsFoundThen() {
        sentence(2, "ahead of the latest pass's LAST FORK the way is that of the NAME found then; at it 1");
        RollCall x = withTags(BIT, 0L, 1L, FIRST, FIRST | 1L);
        int[] forks = {55, 0, 55, NONE};
        for (int t = 0; t < 4; t++) {
            due("pass", x.pass(), t);
            due("last fork", x.fork(0), forks[t]);
        }
    }

    private static void newForkAheadOfTheLastFork() {
        sentence(2, "ahead of the LAST FORK as the NAME found then, at a fork that is new");
        RollCall x = withTags(BIT, FIRST, FIRST | 1L);
        due("pass", x.pass(), 0);
        x.tag(BIT, 0L, 0);
        due("the way is 1 at bit 0", x.pass(), 1);
        due("no way was 0", x.fork(0), NONE);
        RollCall y = withTags(BIT, 0L, 1L);
        due("pass", y.pass(), 0);
        y.tag(BIT, FIRST, 0);
        due("the way is 0 at bit 0", y.pass(), 1);
        due("that is the last one now", y.fork(0), 0);
    }

    private static void behindTheLastForkZero() {
        sentence(2, "ahead of the LAST FORK ..; at the LAST FORK 1; else 0");
        RollCall x = withTags(BIT, 0L, 1L, FIRST | 1L, FIRST);
        x.pass();
        x.pass();
        due("last fork", x.fork(0), 0);
        due("1 at it and 0 behind it", x.pass(), 3);
        due("last fork", x.fork(0), 55);
    }

    private static void nobodyAtTheBeginning() {
        sentence(2, "If nobody is in at the beginning the pass ends there, in 1 slot: none is found");
        RollCall x = withTags(BIT, 0L, FIRST);
        x.pass();
        due("a row under way", x.fork(1), 1);
        x.group(-1L, 1L);
        due("nobody", x.pass(), NONE);
        due("1 slot", x.cost(3), 194);
        due("none is found", x.count(2), 1);
        due("the next pass is a first one", x.fork(0), NONE);
        due("no passes", x.fork(1), 0);
        x.group(0L, 0L);
        due("so it begins with 0", x.pass(), 0);
        due("1 pass", x.fork(1), 1);
    }

    private static void nobodyAnyMore() {
        sentence(2, "If nobody is in any more .. 1 slot and 3 for each bit at which somebody was in");
        RollCall x = withTags(BIT, 0x31323334353637L);
        long name = 0x31323334353637D7L;
        int slots = 0;
        for (int bit = 0; bit < 64; bit++) {
            due("another at bit " + bit, x.verify(name ^ FIRST_OF_NAME >>> bit), false);
            slots += 1 + 3 * (bit + 1);
            due("slots", x.cost(3), slots);
        }
    }

    private static void lastForkOfEveryBit() {
        sentence(2, "the LAST FORK is the last bit with a fork, from the first to the last that can part");
        for (int bit = 0; bit < 56; bit++) {
            RollCall x = withTags(BIT, ONES ^ FIRST >>> bit, ONES);
            due("pass", x.pass(), 0);
            due("bit " + bit, x.fork(0), bit);
            due("pass", x.pass(), 1);
            due("over", x.fork(0), NONE);
        }
    }

    private static void lastForkIsOneWithWayZero() {
        sentence(2, "the LAST FORK is the last bit with a fork at which the way was 0");
        RollCall x = withTags(BIT, 0L, 1L, FIRST >>> 3);
        due("0 at 3 and at 55", x.pass(), 0);
        due("the later one", x.fork(0), 55);
        due("0 at 3, 1 at 55", x.pass(), 1);
        due("that of 0", x.fork(0), 3);
        due("1 at 3", x.pass(), 2);
        due("none", x.fork(0), NONE);
    }

    private static void withoutOneTheRowIsOver() {
        sentence(2, "without one the row of passes is over, and the next pass is a first one");
        RollCall x = withTags(BIT, 0L, FIRST);
        x.pass();
        x.pass();
        due("no last fork", x.fork(0), NONE);
        due("no passes", x.fork(1), 0);
        due("from the beginning", x.pass(), 0);
        due("1 pass", x.fork(1), 1);
    }

    private static void firstPassTakesZeros() {
        sentence(2, "A first pass has no LAST FORK: at forks 0");
        RollCall x = withTags(BIT, ONES, FIRST, FIRST >>> 1, 3L, 2L, 0L);
        due("the least name", x.pass(), 5);
    }

    // ---- term 3

    private static void beginnings() {
        rowsOfEveryLength();
        askedOrUnderIt();
        theEmptyRowAtFirst();
        onlyAloneIsFound();
        zeroIsAskedAheadOfOne();
        deepestPile();
        pileOfOnes();
        overWhenThePileIsEmpty();
    }

    private static void rowsOfEveryLength() {
        sentence(3, "a question tells a row of bits, 0 to 64");
        RollCall x = withTags(ASKED, 0x12345678901234L);
        long name = 0x12345678901234F9L;
        for (int n = 0; n <= 64; n++) {
            due("its first " + n, x.ask(name, n), ALONE);
        }
        for (int n = 0; n < 64; n++) {
            due("others behind " + n, x.ask(name ^ -1L >>> n, n), ALONE);
        }
        for (int n = 1; n <= 64; n++) {
            due("another at the last of " + n, x.ask(name ^ 1L << 64 - n, n), QUIET);
        }
        due("one slot each", x.cost(4), 193);
    }

    private static void askedOrUnderIt() {
        sentence(3, "those that LISTEN, ASKED or under it, whose NAMES begin so speak, in one slot");
        for (int kind = BIT; kind <= WEAK; kind++) {
            RollCall x = withAwake(kind, 1L);
            due("kind " + kind, x.ask(305L, 64), kind == BIT ? QUIET : ALONE);
            x.descend();
            due("kind " + kind, x.step(), kind == BIT ? QUIET : ALONE);
            due("one slot each", x.cost(4), 2);
        }
    }

    private static void theEmptyRowAtFirst() {
        sentence(3, "A DESCENT: a pile of such rows, the empty one at first");
        RollCall x = withTags(ASKED, ONES, 0L);
        x.descend();
        due("one row", x.count(3), 1);
        due("all begin so", x.step(), COLLISION);
    }

    private static void onlyAloneIsFound() {
        sentence(3, "ALONE: that TAG is found");
        RollCall x = withTags(ASKED, FIRST >>> 1, 0L);
        x.descend();
        int[] sounds = {COLLISION, COLLISION, ALONE, ALONE, QUIET};
        int[] found = {0, 0, 1, 2, 2};
        for (int i = 0; i < sounds.length; i++) {
            due("step", x.step(), sounds[i]);
            due("found", x.count(2), found[i]);
        }
        due("the one with 00", x.found(0), 1);
        due("the one with 01", x.found(1), 0);
    }

    private static void zeroIsAskedAheadOfOne() {
        sentence(3, "COLLISION: the row with 1 behind it, then that with 0, come onto the pile");
        RollCall x = withTags(ASKED, FIRST, 0L);
        x.descend();
        x.step();
        due("two rows", x.count(3), 2);
        x.step();
        due("0 is topmost", x.alone(), 1);
        due("one row", x.count(3), 1);
        x.step();
        due("then 1", x.alone(), 0);
        due("none", x.count(3), 0);
    }

    private static void deepestPile() {
        // NAMES differ in their first 56 bits, so no row of more than 55 can have a COLLISION.
        sentence(3, "(of 64 bits: nothing comes): the longest rows that there can be");
        RollCall x = withTags(ASKED, 0L, 1L);
        x.descend();
        for (int n = 0; n < 56; n++) {
            due("zeros", x.step(), COLLISION);
            due("rows", x.count(3), n + 2);
        }
        due("56 zeros", x.step(), ALONE);
        due("that", x.alone(), 0);
        due("55 zeros and 1", x.step(), ALONE);
        due("that", x.alone(), 1);
        for (int rows = 54; rows >= 0; rows--) {
            due("1 behind fewer zeros", x.step(), QUIET);
            due("rows", x.count(3), rows);
        }
        due("over", x.step(), NONE);
        due("as nodes tells", x.nodes(), x.cost(4));
    }

    private static void pileOfOnes() {
        sentence(3, "the row with 1 behind it: ones up to the longest row");
        RollCall x = withTags(ASKED, ONES, ONES - 1);
        x.descend();
        due("all", x.step(), COLLISION);
        for (int n = 1; n < 56; n++) {
            due("ones and 0", x.step(), QUIET);
            due("ones", x.step(), COLLISION);
            due("rows", x.count(3), 2);
        }
        due("55 ones and 0", x.step(), ALONE);
        due("that", x.alone(), 1);
        due("56 ones", x.step(), ALONE);
        due("that", x.alone(), 0);
        due("over", x.step(), NONE);
    }

    private static void overWhenThePileIsEmpty() {
        sentence(3, "It is over when the pile is empty");
        RollCall x = new RollCall();
        x.descend();
        due("nobody", x.step(), QUIET);
        due("no rows", x.count(3), 0);
        x.tag(ASKED, 1L, 0);
        due("over, also for a latecomer", x.step(), NONE);
        due("not found", x.count(2), 0);
    }

    // ---- term 4

    private static void counters() {
        splitAndThoseUnderIt();
        beginningSetsAllToZero();
        othersHaveNone();
        oneSlotEach();
        onlyZerosThatListenSpeak();
        speakersDraw();
        othersThatListenOneMore();
        aloneHasNoneAnyMore();
        othersThatListenOneLess();
        oneLessFromTwo();
        zeroAtLeast();
        overBelowZero();
    }

    private static void splitAndThoseUnderIt() {
        sentence(4, "BY COUNTERS, for SPLIT and those under it");
        for (int kind = BIT; kind <= WEAK; kind++) {
            boolean takesPart = kind == SPLIT || kind == SLEEPER;
            RollCall x = withAwake(kind, 1L);
            due("kind " + kind, x.begin(), takesPart ? 1 : 0);
            due("counter", x.tell(0, 4), takesPart ? 0 : NONE);
            due("slot", x.split(), takesPart ? ALONE : QUIET);
            due("found", x.count(2), takesPart ? 1 : 0);
        }
    }

    private static void beginningSetsAllToZero() {
        sentence(4, "a SPLIT begins: the caller's count is 0, and each that LISTENS then has a counter 0");
        RollCall x = withSeeds(SPLIT, 0, 3);
        x.begin();
        x.split();
        due("one has 1", x.tell(1, 4), 1);
        due("caller 1", x.count(4), 1);
        due("anew", x.begin(), 2);
        due("0", x.tell(0, 4), 0);
        due("0", x.tell(1, 4), 0);
        due("caller 0", x.count(4), 0);
    }

    private static void othersHaveNone() {
        sentence(4, "(others have none)");
        RollCall x = withSeeds(SLEEPER, 0, 0, 0);
        due("three", x.begin(), 3);
        x.act(0, GO);
        x.act(1, FALL_ASLEEP);
        due("one is beyond the group", x.group(BIT_OF_TWO, 0L), 0);
        due("none listens", x.begin(), 0);
        x.act(0, COME_BACK);
        x.act(1, WAKE_UP);
        x.group(0L, 0L);
        for (int t = 0; t < 3; t++) {
            due("none", x.tell(t, 4), NONE);
        }
        due("nor do they speak", x.split(), QUIET);
    }

    private static void oneSlotEach() {
        sentence(4, "A STEP, one slot");
        RollCall x = withSeeds(SPLIT, 0, 3);
        x.begin();
        due("no slot to begin", x.cost(4), 0);
        due("step", x.split(), COLLISION);
        due("one", x.cost(2), 1);
        x.act(0, GO);
        due("step", x.split(), QUIET);
        due("one", x.cost(0), 1);
        due("step", x.split(), ALONE);
        due("one", x.cost(1), 1);
        due("all", x.cost(4), 3);
    }

    private static void onlyZerosThatListenSpeak() {
        sentence(4, "those with counter 0 that LISTEN speak");
        RollCall x = withSeeds(SLEEPER, 0, 0, 0, 0);
        x.begin();
        x.act(0, GO);
        x.act(1, FALL_ASLEEP);
        x.act(3, GO);
        due("one of four", x.split(), ALONE);
        due("that", x.alone(), 2);
        x.act(0, COME_BACK);
        x.act(3, COME_BACK);
        x.begin();
        due("one is beyond the group", x.group(BIT_OF_TWO, 0L), 1);
        due("one of two", x.split(), ALONE);
        due("that", x.alone(), 0);
        due("the other keeps its counter", x.tell(3, 4), 0);
    }

    private static void speakersDraw() {
        sentence(4, "COLLISION: those draw a number below 2, that is their counter");
        RollCall x = withSeeds(SPLIT, 0, 3, 1);
        x.begin();
        x.act(2, GO);
        x.split();
        due("0", x.tell(0, 4), 0);
        due("its seed", x.tell(0, 5), 12345);
        due("1", x.tell(1, 4), 1);
        due("its seed", x.tell(1, 5), -984409216);
        due("one that went draws none", x.tell(2, 5), 1);
        due("and keeps its counter", x.tell(2, 4), 0);
    }

    private static void othersThatListenOneMore() {
        sentence(4, "of all others that LISTEN and have one it is one more; the caller's count too");
        RollCall x = withSeeds(SLEEPER, 0, 0, 3, 3, 3);
        x.begin();
        x.split();
        x.act(3, GO);
        x.act(4, FALL_ASLEEP);
        x.tag(SPLIT, 99L, 5);
        due("the two with 0", x.split(), COLLISION);
        due("one more", x.tell(2, 4), 2);
        due("one draw alone", x.tell(2, 5), -984409216);
        due("one that went keeps its own", x.tell(3, 4), 1);
        due("one asleep too", x.tell(4, 4), 1);
        due("a latecomer has none", x.tell(5, 4), NONE);
        due("caller", x.count(4), 2);
    }

    private static void aloneHasNoneAnyMore() {
        sentence(4, "if ALONE, it is found and has none any more");
        RollCall x = withSeeds(SPLIT, 0);
        x.begin();
        due("alone", x.split(), ALONE);
        due("found", x.found(0), 0);
        due("none", x.tell(0, 4), NONE);
        due("no draw", x.tell(0, 5), 0);
    }

    private static void othersThatListenOneLess() {
        sentence(4, "of all others that LISTEN and have one it is one less, the caller's count too");
        RollCall x = withSeeds(SLEEPER, 0, 3, 3, 3, 3);
        x.begin();
        x.split();
        x.act(2, GO);
        x.act(3, FALL_ASLEEP);
        x.tag(SPLIT, 99L, 5);
        due("the one with 0", x.split(), ALONE);
        due("one less", x.tell(1, 4), 0);
        due("one less", x.tell(4, 4), 0);
        due("one that went keeps its own", x.tell(2, 4), 1);
        due("one asleep too", x.tell(3, 4), 1);
        due("a latecomer has none", x.tell(5, 4), NONE);
        due("caller", x.count(4), 0);
    }

    private static void oneLessFromTwo() {
        sentence(4, "it is one less, also of one that is above 1");
        RollCall x = withSeeds(SPLIT, 0, 0, 3);
        x.begin();
        x.split();
        x.split();
        due("two", x.tell(2, 4), 2);
        x.act(0, GO);
        due("the one with 0", x.split(), ALONE);
        due("one", x.tell(2, 4), 1);
        due("quiet", x.split(), QUIET);
        due("zero", x.tell(2, 4), 0);
        due("caller", x.count(4), 0);
    }

    private static void zeroAtLeast() {
        // Who LISTENS with 0 has spoken, so no step can lower a 0; but none may fall below it.
        sentence(4, "(0 at least)");
        RollCall x = withSeeds(SPLIT, 0, 3);
        x.begin();
        x.split();
        x.act(0, GO);
        due("quiet", x.split(), QUIET);
        due("at 0", x.tell(1, 4), 0);
        due("one that went at 0", x.tell(0, 4), 0);
        due("alone", x.split(), ALONE);
        due("one that went at 0", x.tell(0, 4), 0);
        due("over", x.split(), NONE);
    }

    private static void overBelowZero() {
        sentence(4, "It is over when that is below 0");
        RollCall x = withSeeds(SPLIT, 0, 3);
        x.begin();
        x.split();
        x.act(1, GO);
        due("alone", x.split(), ALONE);
        due("0 is not below 0", x.count(4), 0);
        x.act(1, COME_BACK);
        due("the other has 1", x.tell(1, 4), 1);
        due("so it is quiet", x.split(), QUIET);
        due("over", x.count(4), NONE);
        due("over, though one has a counter", x.tell(1, 4), 0);
        due("none is under way", x.split(), NONE);
    }

    // ---- term 5

    private static void framesOfSlots() {
        slottedAndThoseUnderIt();
        lengthsFromOneToSixtyFour();
        asManySlotsAsItsLength();
        notFoundInAFrameYet();
        foundOtherwiseDrawsAllTheSame();
        onlyAloneOnesAreFound();
        onlyThoseThatListenDraw();
        guesses();
    }

    private static void slottedAndThoseUnderIt() {
        sentence(5, "FRAMES, for SLOTTED and those under it");
        for (int kind = BIT; kind <= WEAK; kind++) {
            RollCall x = withAwake(kind, 1L);
            boolean takesPart = kind >= SLOTTED;
            due("kind " + kind, x.frame(8), takesPart ? 1 : 0);
            due("its seed", x.tell(0, 5), takesPart ? 12345 : 0);
        }
    }

    private static void lengthsFromOneToSixtyFour() {
        sentence(5, "a frame has a length, 1 .. 64");
        for (int length = 1; length <= 64; length++) {
            RollCall x = withTags(SLOTTED, 1L);
            due("length " + length, x.frame(length), 1);
            due("slots", x.cost(4), length);
        }
        RollCall y = withTags(SLOTTED, 1L);
        due("length 0", y.frame(0), NONE);
        due("length 65", y.frame(65), NONE);
        due("slots", y.cost(4), 0);
    }

    private static void asManySlotsAsItsLength() {
        sentence(5, "draw a slot below it");
        RollCall x = new RollCall();
        for (int t = 0; t < 40; t++) {
            x.tag(SLOTTED, t, 7 * t - 100);
        }
        for (int length = 1; length <= 64; length++) {
            int found = x.frame(length);
            due("slots of " + length, x.heard(0) + x.heard(1) + x.heard(2), length);
            due("found", found, x.heard(1));
        }
    }

    private static void notFoundInAFrameYet() {
        sentence(5, "those that were not found in a frame since the frames began");
        RollCall x = withSeeds(SLOTTED, 0);
        due("found", x.frame(1), 1);
        due("one draw", x.tell(0, 5), 12345);
        due("no more", x.frame(1), 0);
        due("no draw", x.tell(0, 5), 12345);
        x.frames();
        due("found anew", x.frame(1), 1);
        due("a draw", x.tell(0, 5), -740551042);
    }

    private static void foundOtherwiseDrawsAllTheSame() {
        sentence(5, "not found in a frame: found by bits, beginnings or counters is no matter");
        RollCall x = withSeeds(SPLIT, 0);
        x.pass();
        x.descend();
        x.step();
        x.begin();
        x.split();
        due("found three times", x.tell(0, 6), 3);
        due("and in a frame", x.frame(1), 1);
    }

    private static void onlyAloneOnesAreFound() {
        sentence(5, "ALONE ones are found");
        RollCall x = withSeeds(SLOTTED, 4, 4, 0, 3);
        due("slots 25, 25, 0, 19", x.frame(64), 2);
        due("slot 0", x.found(0), 2);
        due("slot 19", x.found(1), 3);
        due("quiet", x.heard(0), 61);
        due("collisions", x.heard(2), 1);
        due("the others speak again", x.frame(1), 0);
        due("both", x.heard(2), 1);
    }

    private static void onlyThoseThatListenDraw() {
        sentence(5, "those that LISTEN draw a slot");
        RollCall x = withSeeds(SLEEPER, 0, 0, 0, 0);
        x.act(1, GO);
        x.act(0, FALL_ASLEEP);
        due("two are beyond the group", x.group(BIT_OF_TWO, 0L), 0);
        due("none of four", x.frame(1), 0);
        x.act(1, COME_BACK);
        due("one of four", x.frame(1), 1);
        for (int t = 0; t < 4; t++) {
            due("seed", x.tell(t, 5), t == 1 ? 12345 : 0);
        }
    }

    private static void guesses() {
        // Forty TAGS make 20 COLLISIONS at most, so the guess never comes to 64.
        sentence(5, "The length that is guessed next: 2.39f times the COLLISIONS, cut; 1 at least");
        int[] guess = {
            1, 2, 4, 7, 9, 11, 14, 16, 19, 21, 23, 26, 28, 31, 33, 35, 38, 40, 43, 45, 47,
        };
        for (int collisions = 0; collisions <= 20; collisions++) {
            RollCall x = new RollCall();
            for (int pair = 0; pair < collisions; pair++) {
                x.tag(SLOTTED, 2 * pair, seedForSlot(3 * pair));
                x.tag(SLOTTED, 2 * pair + 1, seedForSlot(3 * pair));
            }
            x.frame(64);
            due("collisions", x.heard(2), collisions);
            due("guess for " + collisions, x.heard(3), guess[collisions]);
        }
    }

    // ---- term 6

    private static void foundAndCost() {
        againAndAgain();
        for (int way = 0; way < 4; way++) {
            theFirstTwoHundred(way);
            aFullRowStopsNothing(way);
        }
        foundByCountersOrInAFrameIsAsleep();
        foundOtherwiseStaysAwake();
        passesAreOfAKindOfTheirOwn();
    }

    private static void find(RollCall x, int way) {
        switch (way) {
            case 0:
                x.pass();
                break;
            case 1:
                x.descend();
                x.step();
                break;
            case 2:
                x.begin();
                x.split();
                break;
            default:
                x.frames();
                x.frame(1);
        }
    }

    private static void againAndAgain() {
        sentence(6, "FOUND: the row of TAGS found by any way, in order (again and again, too)");
        RollCall x = withTags(SPLIT, 1L, 2L);
        x.act(0, GO);
        find(x, 0);
        find(x, 1);
        x.act(0, COME_BACK);
        x.act(1, GO);
        find(x, 2);
        find(x, 3);
        find(x, 0);
        int[] row = {1, 1, 0, 0, 0, NONE};
        for (int k = 0; k < row.length; k++) {
            due("found(" + k + ")", x.found(k), row[k]);
        }
    }

    /** 199 times TAG 0 is in the row, and TAG 1 LISTENS alone. */
    private static RollCall oneShortOfFull(int kind) {
        RollCall x = withAwake(kind, 1L, 2L);
        x.act(1, GO);
        for (int k = 0; k < 199; k++) {
            x.pass();
        }
        x.act(0, GO);
        x.act(1, COME_BACK);
        return x;
    }

    private static void theFirstTwoHundred(int way) {
        sentence(6, "(again and again, too; the first 200): way " + way);
        RollCall x = oneShortOfFull(SPLIT);
        due("one short", x.count(2), 199);
        find(x, way);
        due("full", x.count(2), 200);
        due("the last", x.found(199), 1);
        find(x, way);
        due("no more", x.count(2), 200);
        due("the last but one", x.found(198), 0);
        due("the last", x.found(199), 1);
        due("behind it", x.found(200), NONE);
        due("how often", x.tell(1, 6), 1);
        due("how often", x.tell(0, 6), 199);
    }

    private static void aFullRowStopsNothing(int way) {
        sentence(6, "the first 200, but found all the same: way " + way);
        RollCall x = oneShortOfFull(SLEEPER);
        find(x, 0);
        due("full", x.count(2), 200);
        int before = x.cost(1);
        find(x, way);
        boolean isPass = way == 0;
        due("a slot alone", x.cost(1), isPass ? before : before + 1);
        due("asleep by counters and in frames", x.tell(1, 2), way < 2 ? 1 : 0);
        due("no counter", x.tell(1, 4), NONE);
        x.act(1, WAKE_UP);
        due("in a frame once", x.frame(1), way == 3 ? 0 : 1);
        due("no more", x.count(2), 200);
    }

    private static void foundByCountersOrInAFrameIsAsleep() {
        sentence(6, "A SLEEPER that is found by counters or in a frame is ASLEEP");
        for (int way = 2; way < 4; way++) {
            RollCall x = withAwake(SLEEPER, 1L);
            find(x, way);
            due("found", x.found(0), 0);
            due("asleep, way " + way, x.tell(0, 2), 0);
            due("nobody listens", x.count(1), 0);
            RollCall y = withTags(SPLIT, 1L);
            find(y, way);
            due("no sleeper stays awake, way " + way, y.tell(0, 2), 1);
        }
        RollCall z = withAwake(SLEEPER, 1L, 2L);
        z.frame(1);
        due("in a collision it is not found", z.count(1), 2);
    }

    private static void foundOtherwiseStaysAwake() {
        sentence(6, "by counters or in a frame: not by bits, not by beginnings");
        for (int way = 0; way < 2; way++) {
            RollCall x = withAwake(SLEEPER, 1L);
            find(x, way);
            due("found", x.found(0), 0);
            due("awake, way " + way, x.tell(0, 2), 1);
        }
        RollCall y = withAwake(SLEEPER, 1L);
        y.ask(0L, 0);
        y.verify(305L);
        due("nor by a question or its name", y.tell(0, 2), 1);
    }

    private static void passesAreOfAKindOfTheirOwn() {
        sentence(6, "COST: slots by kinds; those of passes are of a kind of their own");
        RollCall x = withTags(SPLIT, 1L);
        x.pass();
        x.verify(305L);
        for (int what = 0; what < 3; what++) {
            due("no slot of kind " + what, x.cost(what), 0);
        }
        due("of passes", x.cost(3), 386);
        find(x, 1);
        find(x, 2);
        find(x, 3);
        due("no more of passes", x.cost(3), 386);
        due("alone", x.cost(1), 3);
        due("all", x.cost(4), 389);
    }
}
