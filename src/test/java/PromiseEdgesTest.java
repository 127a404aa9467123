/** Each sentence of promises 1 to 26 that names an edge, with a test of its own. */
public final class PromiseEdgesTest extends Words {
    private static final int[] NO_TAGS = {MIN, -1, 2, 39, 40, MAX};

    private PromiseEdgesTest() {
    }

    public static void main(String[] args) {
        newObject();
        wire();
        tag();
        name();
        isName();
        tell();
        act();
        group();
        pass();
        fork();
        verify();
        ask();
        alone();
        descent();
        nodes();
        split();
        frames();
        heard();
        found();
        cost();
        count();
        image();
        again();
        Check.end();
    }

    private static void sentence(int promise, String words) {
        Check.about("promise " + promise + ": " + words);
    }

    // ---- 1, a new object

    private static void newObject() {
        noTags();
        wireOfCopper();
        groupOfAll();
        nextPassIsAFirstOne();
        noDescentUnderWay();
        noSplitUnderWay();
        noImages();
        objectsAreApart();
    }

    private static void noTags() {
        sentence(1, "No TAGS");
        RollCall x = new RollCall();
        due("count", x.count(0), 0);
        due("name", x.name(0), 0L);
        due("tell", x.tell(0, 0), NONE);
        due("the first one's number", x.tag(BIT, 0L, 0), 0);
    }

    private static void wireOfCopper() {
        sentence(1, "a WIRE of COPPER");
        due("both are heard", strongAndWeak().ask(0L, 0), COLLISION);
    }

    private static void groupOfAll() {
        sentence(1, "a GROUP of all");
        due("all", withTags(BIT, 0L, 1L, FIRST, ONES).count(1), 4);
    }

    private static void nextPassIsAFirstOne() {
        sentence(1, "the next pass is a first one");
        RollCall x = withTags(BIT, FIRST, 1L);
        due("no last fork", x.fork(0), NONE);
        due("no passes", x.fork(1), 0);
        due("at forks 0", x.pass(), 1);
    }

    private static void noDescentUnderWay() {
        sentence(1, "no DESCENT is under way");
        RollCall x = withTags(ASKED, 1L);
        due("no rows", x.count(3), 0);
        due("no step", x.step(), NONE);
    }

    private static void noSplitUnderWay() {
        sentence(1, "no SPLIT is under way");
        RollCall x = withTags(SPLIT, 1L);
        due("no count", x.count(4), NONE);
        due("no counter", x.tell(0, 4), NONE);
        due("no step", x.split(), NONE);
    }

    private static void noImages() {
        sentence(1, "no images");
        RollCall x = new RollCall();
        for (int k = 0; k < 4; k++) {
            due("again", x.again(k), false);
        }
    }

    private static void objectsAreApart() {
        sentence(1, "a new object, whatever another one has");
        RollCall other = withTags(SPLIT, 1L);
        other.wire(AIR);
        other.image(0);
        other.pass();
        RollCall x = new RollCall();
        due("no tags", x.count(0), 0);
        due("no image", x.again(0), false);
        due("no cost", x.cost(4), 0);
        due("nor is the other changed", other.count(0), 1);
    }

    // ---- 2, wire

    private static RollCall strongAndWeak() {
        RollCall x = new RollCall();
        x.tag(SLOTTED, 1L, 0);
        x.tag(WEAK, 2L, 0);
        return x;
    }

    private static void wire() {
        wireOfAKind();
        wireOfAnotherKind();
    }

    private static void wireOfAKind() {
        sentence(2, "The WIRE is of a kind, 0 or 1, from now on: true");
        RollCall x = strongAndWeak();
        due("air", x.wire(AIR), true);
        due("the strong one", x.ask(0L, 0), ALONE);
        due("air once more", x.wire(AIR), true);
        due("the strong one", x.ask(0L, 0), ALONE);
        due("copper", x.wire(COPPER), true);
        due("both", x.ask(0L, 0), COLLISION);
        due("copper once more", x.wire(COPPER), true);
        due("both", x.ask(0L, 0), COLLISION);
    }

    private static void wireOfAnotherKind() {
        sentence(2, "false for another one");
        RollCall x = strongAndWeak();
        for (int wire = COPPER; wire <= AIR; wire++) {
            x.wire(wire);
            for (int kind : new int[] {MIN, -1, 2, 3, MAX}) {
                due("wire(" + kind + ")", x.wire(kind), false);
                due("as it was", x.ask(0L, 0), wire == AIR ? ALONE : COLLISION);
            }
        }
    }

    // ---- 3, tag

    private static void tag() {
        lowestBitsOfANumber();
        noneWhenThereAreForty();
        noneWithoutSuchAKind();
        noneWhenOneHasThatName();
    }

    private static void lowestBitsOfANumber() {
        sentence(3, "its NAME's first 56 bits are the lowest 56 of a number");
        RollCall x = new RollCall();
        due("56 ones", x.tag(BIT, ONES, 0), 0);
        due("its name", x.name(0), 0xFFFFFFFFFFFFFF28L);
        due("64 ones are the same", x.tag(BIT, -1L, 0), NONE);
        due("the highest bit alone", x.tag(BIT, Long.MIN_VALUE, 0), 1);
        due("is as 0", x.name(1), 0L);
        due("bit 56 counts for nothing", x.tag(BIT, 1L << 56, 0), NONE);
        due("bit 55 is the first of its name", x.tag(BIT, 1L << 55, 0), 2);
        due("its name", x.name(2), 0x80000000000000BCL);
    }

    private static void noneWhenThereAreForty() {
        sentence(3, "NONE: there are 40");
        RollCall x = new RollCall();
        for (int t = 0; t < 40; t++) {
            due("tag", x.tag(SLEEPER, t, 0), t);
        }
        due("the 41st", x.tag(BIT, 40L, 0), NONE);
        x.act(0, GO);
        due("one that went counts too", x.tag(BIT, 40L, 0), NONE);
        due("forty", x.count(0), 40);
        due("the last one's name", x.name(39) >>> 8, 39L);
    }

    private static void noneWithoutSuchAKind() {
        sentence(3, "NONE: no such KIND");
        RollCall x = new RollCall();
        for (int kind : new int[] {MIN, -1, 6, 7, MAX}) {
            due("kind " + kind, x.tag(kind, 1L, 0), NONE);
            due("none was made", x.count(0), 0);
        }
        due("its name is free", x.tag(WEAK, 1L, 0), 0);
    }

    private static void noneWhenOneHasThatName() {
        sentence(3, "NONE: one has that NAME");
        RollCall x = new RollCall();
        x.tag(BIT, 0L, 0);
        x.tag(SLEEPER, 1L, 0);
        x.tag(BIT, 2L, 0);
        x.act(2, GO);
        x.group(-1L, -1L);
        for (long number = 0L; number < 3L; number++) {
            due("taken", x.tag(WEAK, number, 9), NONE);
        }
        due("the kind is as it was", x.tell(0, 0), BIT);
        due("the seed too", x.tell(0, 5), 0);
        due("another is free", x.tag(WEAK, 3L, 9), 3);
    }

    // ---- 4, name, and 5, isName

    private static void name() {
        sentence(4, "NAME of a TAG; 0 if there is none such");
        RollCall x = withTags(BIT, 1L, ONES);
        due("the first", x.name(0), 305L);
        due("the last", x.name(1), 0xFFFFFFFFFFFFFF28L);
        for (int none : NO_TAGS) {
            due("name(" + none + ")", x.name(none), 0L);
        }
        x.act(0, GO);
        due("one that went has it still", x.name(0), 305L);
    }

    private static void isName() {
        sentence(5, "Whether a number is a NAME (its last 8 bits the SUM of the others)");
        RollCall x = new RollCall();
        long[] names = {0L, 0x131L, 0x262L, 0x807AL, 0x80000000000000BCL, 0xFFFFFFFFFFFFFF28L};
        for (long name : names) {
            due("a name", x.isName(name), true);
            for (int bit = 0; bit < 64; bit++) {
                due("a bit is another", x.isName(name ^ 1L << bit), false);
            }
        }
        due("all ones", x.isName(-1L), false);
        due("the sum alone", x.isName(49L), false);
        due("no tag has to have it", x.count(0), 0);
    }

    // ---- 6, tell

    private static void tell() {
        noCounterIsNone();
        seedsOfAllSizes();
        noSuchTagToTellOf();
        noSuchWhatToTell();
        timesInTheRow();
    }

    private static void noCounterIsNone() {
        sentence(6, "4: its counter (NONE)");
        RollCall x = withTags(SPLIT, 1L);
        due("at first", x.tell(0, 4), NONE);
        x.begin();
        due("in a split", x.tell(0, 4), 0);
        x.split();
        due("when it was found", x.tell(0, 4), NONE);
    }

    private static void seedsOfAllSizes() {
        sentence(6, "5: its SEED");
        int[] seeds = {0, 1, -1, MAX, MIN};
        RollCall x = withSeeds(BIT, seeds);
        for (int t = 0; t < seeds.length; t++) {
            due("seed", x.tell(t, 5), seeds[t]);
        }
    }

    private static void noSuchTagToTellOf() {
        sentence(6, "NONE if there is none such");
        RollCall x = withTags(SPLIT, 1L, 2L);
        for (int none : NO_TAGS) {
            for (int what = 0; what < 7; what++) {
                due("tell(" + none + ", " + what + ")", x.tell(none, what), NONE);
            }
        }
    }

    private static void noSuchWhatToTell() {
        sentence(6, "NONE for another what");
        RollCall x = withTags(SPLIT, 1L);
        for (int what : new int[] {MIN, -1, 7, 8, MAX}) {
            due("tell(0, " + what + ")", x.tell(0, what), NONE);
        }
    }

    private static void timesInTheRow() {
        sentence(6, "6: how often it is in the row of FOUND");
        RollCall x = withTags(BIT, 1L, 2L);
        due("not at all", x.tell(0, 6), 0);
        for (int k = 0; k < 199; k++) {
            x.pass();
        }
        due("every other one", x.tell(0, 6), 100);
        due("every other one", x.tell(1, 6), 99);
        x.pass();
        x.pass();
        due("none behind the 200th", x.tell(0, 6), 100);
        due("the 200th", x.tell(1, 6), 100);
    }

    // ---- 7, act

    private static void act() {
        sleeperAlone();
        falseIfNoneSuch();
        falseIfItIsSo();
        falseForAnotherWhat();
        oneThatWentKeepsItsCounter();
    }

    private static void sleeperAlone() {
        sentence(7, "falls asleep (3; a SLEEPER alone)");
        for (int kind = BIT; kind <= WEAK; kind++) {
            RollCall x = withAwake(kind, 1L);
            due("kind " + kind, x.act(0, FALL_ASLEEP), kind == SLEEPER);
            due("awake", x.tell(0, 2), kind == SLEEPER ? 0 : 1);
        }
    }

    private static void falseIfNoneSuch() {
        sentence(7, "False: there is none such");
        RollCall x = withTags(SLEEPER, 1L, 2L);
        for (int none : NO_TAGS) {
            for (int what = GO; what <= FALL_ASLEEP; what++) {
                due("act(" + none + ", " + what + ")", x.act(none, what), false);
            }
        }
    }

    private static void falseIfItIsSo() {
        sentence(7, "False: it is so");
        RollCall x = withTags(SLEEPER, 1L);
        due("is there", x.act(0, COME_BACK), false);
        due("is asleep", x.act(0, FALL_ASLEEP), false);
        due("goes", x.act(0, GO), true);
        due("went", x.act(0, GO), false);
        due("wakes up", x.act(0, WAKE_UP), true);
        due("is awake", x.act(0, WAKE_UP), false);
        due("comes back", x.act(0, COME_BACK), true);
        due("is there", x.act(0, COME_BACK), false);
        due("falls asleep", x.act(0, FALL_ASLEEP), true);
        due("is asleep", x.act(0, FALL_ASLEEP), false);
        for (int kind = BIT; kind <= WEAK; kind++) {
            due("awake from its making on, but a SLEEPER", withTags(kind, 1L).act(0, WAKE_UP), kind == SLEEPER);
        }
    }

    private static void falseForAnotherWhat() {
        sentence(7, "False: another what");
        RollCall x = withTags(SLEEPER, 1L);
        for (int what : new int[] {MIN, -1, 4, 5, MAX}) {
            due("act(0, " + what + ")", x.act(0, what), false);
            due("there", x.tell(0, 1), 1);
            due("asleep", x.tell(0, 2), 0);
        }
    }

    private static void oneThatWentKeepsItsCounter() {
        sentence(7, "(One that went keeps its counter.)");
        RollCall x = withSeeds(SPLIT, 0, 3, 3);
        x.begin();
        x.split();
        x.act(1, GO);
        due("counter", x.tell(1, 4), 1);
        x.split();
        due("while the split goes on", x.tell(1, 4), 1);
        due("the other's is one less", x.tell(2, 4), 0);
        x.act(1, COME_BACK);
        due("and back again", x.tell(1, 4), 1);
        due("it takes part in it", x.split(), ALONE);
        due("one less", x.tell(1, 4), 0);
    }

    // ---- 8, group

    private static void group() {
        bitsBeyondTheMask();
        howManyListen();
        groupFromNowOn();
    }

    private static void bitsBeyondTheMask() {
        sentence(8, "(bits beyond the mask count for nothing)");
        RollCall x = withTags(BIT, 1L, 2L, FIRST);
        due("a mask of 0", x.group(0L, -1L), 3);
        due("the first bit, others set", x.group(FIRST_OF_NAME, -1L), 1);
        due("the first bit, others clear", x.group(FIRST_OF_NAME, FIRST_OF_NAME), 1);
        due("not the first bit, others set", x.group(FIRST_OF_NAME, Long.MAX_VALUE), 2);
    }

    private static void howManyListen() {
        sentence(8, "how many LISTEN");
        due("none without tags", new RollCall().group(0L, 0L), 0);
        RollCall x = withTags(BIT, 1L, 2L, FIRST);
        due("one by its whole name", x.group(-1L, 305L), 1);
        due("none by another name", x.group(-1L, 306L), 0);
        due("as count tells", x.count(1), 0);
        x.act(0, GO);
        due("one that went does not", x.group(0L, 0L), 2);
        RollCall y = withTags(SLEEPER, 1L, 2L);
        due("sleepers do not", y.group(0L, 0L), 0);
        y.act(1, WAKE_UP);
        due("but awake", y.group(0L, 0L), 1);
    }

    private static void groupFromNowOn() {
        sentence(8, "The GROUP from now on");
        RollCall x = withTags(BIT, 1L, 2L);
        x.group(-1L, 0x262L);
        x.tag(BIT, 3L, 0);
        due("a latecomer beyond it", x.tell(2, 3), 0);
        due("the one in it", x.pass(), 1);
        due("and again", x.pass(), 1);
        x.group(-1L, 305L);
        due("another group", x.pass(), 0);
    }

    // ---- 9, pass, and 10, fork

    private static void pass() {
        sentence(9, "NONE if none was");
        RollCall x = new RollCall();
        due("no tags", x.pass(), NONE);
        x.tag(SLEEPER, 1L, 0);
        due("asleep", x.pass(), NONE);
        x.act(0, WAKE_UP);
        due("awake", x.pass(), 0);
        x.act(0, GO);
        due("went", x.pass(), NONE);
        x.act(0, COME_BACK);
        x.group(-1L, 0L);
        due("beyond the group", x.pass(), NONE);
        due("none of these is in the row", x.count(2), 1);
        due("one slot each", x.cost(3), 4 + 193);
        due("alone is of other slots", x.alone(), NONE);
    }

    private static void fork() {
        bitOfTheLastFork();
        passesOfThisRow();
        noSuchWhatOfFork();
    }

    private static void bitOfTheLastFork() {
        sentence(10, "the bit of the LAST FORK (NONE: the next pass is a first one)");
        RollCall x = withTags(BIT, 0L, 1L, FIRST);
        due("at first", x.fork(0), NONE);
        x.pass();
        due("the last bit that can part", x.fork(0), 55);
        x.pass();
        due("the first bit", x.fork(0), 0);
        x.pass();
        due("over", x.fork(0), NONE);
    }

    private static void passesOfThisRow() {
        sentence(10, "passes of this row so far (0 if the next one is a first one)");
        RollCall x = withTags(BIT, 0L, 1L, FIRST);
        due("at first", x.fork(1), 0);
        int[] passes = {1, 2, 0, 1, 2, 0};
        for (int so : passes) {
            x.pass();
            due("passes", x.fork(1), so);
        }
        x.pass();
        x.group(-1L, 1L);
        x.pass();
        due("behind one that found none", x.fork(1), 0);
    }

    private static void noSuchWhatOfFork() {
        sentence(10, "NONE for another what");
        RollCall x = withTags(BIT, 0L, 1L, FIRST);
        for (int round = 0; round < 2; round++) {
            for (int what : new int[] {MIN, -1, 2, 3, MAX}) {
                due("fork(" + what + ")", x.fork(what), NONE);
            }
            x.pass();
        }
    }

    // ---- 11, verify

    private static void verify() {
        slotsOfVerify();
        answeredToTheEnd();
        rowOfPassesIsAsItWas();
    }

    private static void slotsOfVerify() {
        sentence(11, "193 slots, or as many as a pass takes that ends");
        RollCall x = new RollCall();
        x.verify(0L);
        due("no tags: 1", x.cost(3), 1);
        x.tag(BIT, 1L, 0);
        x.tag(BIT, FIRST, 0);
        x.verify(305L);
        due("to the end: 193", x.cost(3), 194);
        x.verify(304L);
        due("out at the last bit: 193", x.cost(3), 387);
        x.verify(307L);
        due("out at the last bit but one: 190", x.cost(3), 577);
        x.verify(-1L);
        due("out at bit 1: 7", x.cost(3), 584);
        x.act(1, GO);
        x.verify(-1L);
        due("out at bit 0: 4", x.cost(3), 588);
        x.act(0, GO);
        x.verify(305L);
        due("nobody there: 1", x.cost(3), 589);
        due("no other slots", x.cost(4), 589);
    }

    private static void answeredToTheEnd() {
        sentence(11, "whether it answered to the end");
        for (int kind = BIT; kind <= WEAK; kind++) {
            RollCall x = withAwake(kind, 1L, 2L);
            x.wire(kind % 2);
            due("its name", x.verify(305L), true);
            due("the other's", x.verify(610L), true);
            for (int bit = 0; bit < 64; bit++) {
                due("another name", x.verify(305L ^ 1L << bit), false);
            }
            x.act(0, GO);
            due("it went", x.verify(305L), false);
            x.act(0, COME_BACK);
            due("it is back", x.verify(305L), true);
            x.group(-1L, 610L);
            due("it is beyond the group", x.verify(305L), false);
        }
        RollCall y = withTags(SLEEPER, 1L);
        due("it is asleep", y.verify(305L), false);
    }

    private static void rowOfPassesIsAsItWas() {
        sentence(11, "(The row of passes is as it was.)");
        RollCall x = withTags(BIT, 0L, 1L, FIRST);
        x.pass();
        x.verify(x.name(2));
        due("a tag", x.fork(0), 55);
        x.verify(77L);
        due("none such", x.fork(0), 55);
        x.group(-1L, 77L);
        x.verify(0L);
        x.group(0L, 0L);
        due("nobody", x.fork(0), 55);
        due("passes", x.fork(1), 1);
        due("it goes on", x.pass(), 1);
        due("it goes on", x.pass(), 2);
    }

    // ---- 12, ask, and 13, alone

    private static void ask() {
        theFirstBitsOfANumber();
        noSuchLengthOfARow();
    }

    private static void theFirstBitsOfANumber() {
        sentence(12, "the first n bits of a number (its highest)");
        RollCall x = withTags(ASKED, FIRST, FIRST | 1L);
        due("n 0", x.ask(0L, 0), COLLISION);
        due("n 0, all bits set", x.ask(-1L, 0), COLLISION);
        due("n 1", x.ask(FIRST_OF_NAME, 1), COLLISION);
        due("n 1, another", x.ask(0L, 1), QUIET);
        due("n 55", x.ask(FIRST_OF_NAME, 55), COLLISION);
        due("n 56", x.ask(FIRST_OF_NAME, 56), ALONE);
        due("n 63", x.ask(x.name(0) ^ 1L, 63), ALONE);
        due("n 64", x.ask(x.name(0), 64), ALONE);
        due("n 64, another", x.ask(x.name(0) ^ 1L, 64), QUIET);
    }

    private static void noSuchLengthOfARow() {
        sentence(12, "NONE: n is not 0 .. 64");
        RollCall x = withTags(ASKED, FIRST);
        for (int n : new int[] {MIN, -64, -1, 65, 128, MAX}) {
            due("n " + n, x.ask(FIRST_OF_NAME, n), NONE);
        }
        due("no slots", x.cost(4), 0);
    }

    private static void alone() {
        noneWasAlone();
        latestSlotOfThese();
    }

    private static void noneWasAlone() {
        sentence(13, "NONE if none was");
        RollCall x = withSeeds(SPLIT, 0, 3);
        due("no slot yet", x.alone(), NONE);
        x.ask(305L, 64);
        due("alone in ask", x.alone(), 1);
        x.ask(0L, 0);
        due("a collision in ask", x.alone(), NONE);
        x.ask(305L, 64);
        x.ask(77L, 64);
        due("quiet in ask", x.alone(), NONE);
        x.ask(305L, 64);
        x.descend();
        due("no slot of descend", x.alone(), 1);
        x.step();
        due("a collision in step", x.alone(), NONE);
        x.ask(305L, 64);
        x.begin();
        due("no slot of begin", x.alone(), 1);
        x.split();
        due("a collision in split", x.alone(), NONE);
        x.split();
        due("alone in split", x.alone(), 0);
        x.act(1, GO);
        x.split();
        due("quiet in split", x.alone(), NONE);
    }

    private static void latestSlotOfThese() {
        sentence(13, "in the latest slot of ask(), step() or split()");
        RollCall x = withTags(SPLIT, 1L);
        x.descend();
        x.step();
        due("of step", x.alone(), 0);
        x.act(0, GO);
        x.descend();
        due("not yet", x.alone(), 0);
        x.step();
        due("quiet in step", x.alone(), NONE);
        x.act(0, COME_BACK);
        x.pass();
        x.frame(1);
        x.verify(305L);
        due("others are no matter", x.alone(), NONE);
        x.ask(0L, 0);
        x.tag(SPLIT, 2L, 0);
        x.pass();
        x.frame(9);
        x.act(0, GO);
        due("others are no matter", x.alone(), 0);
    }

    // ---- 14, descend, and 15, step

    private static void descent() {
        descentBeginsAnew();
        noDescentToStep();
        stepAsAskTellsIt();
    }

    private static void descentBeginsAnew() {
        sentence(14, "A DESCENT begins anew");
        RollCall x = withTags(ASKED, 0L, 1L);
        for (int steps = 0; steps < 3; steps++) {
            x.descend();
            due("one row", x.count(3), 1);
            due("the empty one", x.step(), COLLISION);
            for (int more = 0; more < steps; more++) {
                x.step();
            }
            due("rows", x.count(3), 2 + steps);
        }
    }

    private static void noDescentToStep() {
        sentence(15, "NONE: none is under way");
        RollCall x = withTags(ASKED, 1L);
        due("none yet", x.step(), NONE);
        x.descend();
        due("one", x.step(), ALONE);
        due("over", x.step(), NONE);
        due("over still", x.step(), NONE);
        due("one slot", x.cost(4), 1);
        due("found once", x.count(2), 1);
        x.descend();
        due("anew", x.step(), ALONE);
    }

    private static void stepAsAskTellsIt() {
        sentence(15, "A STEP of the DESCENT, as ask() tells it");
        RollCall x = withTags(ASKED, FIRST, FIRST | FIRST >>> 1);
        x.descend();
        due("all", x.step(), COLLISION);
        due("0", x.step(), QUIET);
        due("1", x.step(), COLLISION);
        due("10", x.step(), ALONE);
        due("that", x.alone(), 0);
    }

    // ---- 16, nodes

    private static void nodes() {
        questionsOfADescent();
        nodesOfThoseThatListen();
        nodesAsHeard();
    }

    private static void questionsOfADescent() {
        sentence(16, "How many questions a DESCENT would ask");
        RollCall x = new RollCall();
        due("nobody", x.nodes(), 1);
        x.tag(BIT, 5L, 0);
        due("a BIT is not asked", x.nodes(), 1);
        x.tag(ASKED, 0L, 0);
        due("one", x.nodes(), 1);
        x.tag(ASKED, 1L, 0);
        due("two that part at the last bit", x.nodes(), 1 + 2 * 56);
        x.tag(ASKED, FIRST, 0);
        due("and one apart from them", x.nodes(), 1 + 2 * 56);
        due("no slots", x.cost(4), 0);
    }

    private static void nodesOfThoseThatListen() {
        sentence(16, "of those that LISTEN now");
        RollCall x = new RollCall();
        for (int t = 0; t < 40; t++) {
            x.tag(ASKED, (long) t << 50, 0);
        }
        // Numbers 0 .. 39 of 6 bits at the front: 1 + 2 + 3 + 5 + 10 + 20 rows with a collision.
        due("forty", x.nodes(), 1 + 2 * (1 + 2 + 3 + 5 + 10 + 20));
        due("nobody of the group", listeningNodes(x, -1L, 77L), 1);
        due("half of them", listeningNodes(x, 1L << 58, 0L), 1 + 2 * (1 + 2 + 3 + 5 + 10));
    }

    private static int listeningNodes(RollCall x, long mask, long bits) {
        x.group(mask, bits);
        return x.nodes();
    }

    private static void nodesAsHeard() {
        sentence(16, "on this WIRE (WEAK ones as they would be heard)");
        RollCall x = withTags(WEAK, FIRST >>> 1, FIRST);
        x.tag(SLOTTED, 0L, 0);
        due("on copper 00, 01 and 1", x.nodes(), 5);
        x.wire(AIR);
        due("in air the one that is not WEAK", x.nodes(), 1);
        x.tag(SLOTTED, FIRST | 1L, 0);
        due("two of these: one at 0, one at 1", x.nodes(), 3);
        x.tag(SLOTTED, FIRST >>> 2, 0);
        due("a third: 1, then 000 with 001, then 01", x.nodes(), 7);
        x.act(2, GO);
        x.act(3, GO);
        x.act(4, GO);
        due("WEAK ones with none over them", x.nodes(), 3);
    }

    // ---- 17, begin, and 18, split

    private static void split() {
        howManyHaveACounter();
        noSplitToStep();
        splitAsAskTellsIt();
    }

    private static void howManyHaveACounter() {
        sentence(17, "how many have a counter");
        due("no tags", new RollCall().begin(), 0);
        RollCall x = new RollCall();
        for (int t = 0; t < 40; t++) {
            x.tag(t % 2 == 0 ? SPLIT : SLEEPER, t, t);
        }
        due("sleepers have none", x.begin(), 20);
        for (int t = 1; t < 40; t += 2) {
            x.act(t, WAKE_UP);
        }
        due("latecomers have none", x.tell(1, 4), NONE);
        due("all forty", x.begin(), 40);
        x.group(-1L, 305L);
        due("one of the group", x.begin(), 1);
        due("others have none", x.tell(0, 4), NONE);
        due("no slots", x.cost(4), 0);
    }

    private static void noSplitToStep() {
        sentence(18, "NONE: none is under way");
        RollCall x = new RollCall();
        due("none yet", x.split(), NONE);
        x.begin();
        due("nobody", x.split(), QUIET);
        due("over", x.split(), NONE);
        due("over still", x.split(), NONE);
        due("one slot", x.cost(4), 1);
        x.begin();
        due("anew", x.split(), QUIET);
    }

    private static void splitAsAskTellsIt() {
        sentence(18, "A STEP of the SPLIT, as ask() tells it");
        RollCall x = withSeeds(SPLIT, 0, 3);
        x.begin();
        due("collision", x.split(), COLLISION);
        due("alone", x.split(), ALONE);
        due("that", x.alone(), 0);
        x.act(1, GO);
        due("quiet", x.split(), QUIET);
    }

    // ---- 19, frames, and 20, frame

    private static void frames() {
        framesBegin();
        howManyWereFoundInIt();
        noSuchLengthOfAFrame();
    }

    private static void framesBegin() {
        sentence(19, "Frames begin: nobody was found in one");
        RollCall x = withSeeds(SPLIT, 0, 3);
        due("two", x.frame(64), 2);
        due("none", x.frame(64), 0);
        x.frames();
        due("two anew", x.frame(64), 2);
        x.tag(SLOTTED, 9L, 0);
        due("a latecomer, without frames()", x.frame(1), 1);
        x.act(0, GO);
        x.frames();
        x.act(0, COME_BACK);
        x.act(1, GO);
        x.act(2, GO);
        due("also for one that was away then", x.frame(1), 1);
    }

    private static RollCall fortyInSlotsOfTheirOwn() {
        RollCall x = new RollCall();
        for (int t = 0; t < 40; t++) {
            x.tag(SLOTTED, t, seedForSlot(63 - t));
        }
        return x;
    }

    private static void howManyWereFoundInIt() {
        sentence(20, "how many were found in it");
        due("no tags, the shortest", new RollCall().frame(1), 0);
        due("no tags, the longest", new RollCall().frame(64), 0);
        due("none of two in one slot", withSeeds(SLOTTED, 1, 2).frame(1), 0);
        due("none of forty in one slot", fortyInSlotsOfTheirOwn().frame(1), 0);
        due("all forty", fortyInSlotsOfTheirOwn().frame(64), 40);
    }

    private static void noSuchLengthOfAFrame() {
        sentence(20, "NONE: another length");
        RollCall x = fortyInSlotsOfTheirOwn();
        for (int length : new int[] {MIN, -64, -1, 0, 65, 128, MAX}) {
            due("length " + length, x.frame(length), NONE);
        }
        due("no slots", x.cost(4), 0);
        due("no draws", x.frame(64), 40);
        due("length 65", x.frame(65), NONE);
        due("the latest frame is another", x.heard(1), 40);
    }

    // ---- 21, heard

    private static void heard() {
        aheadOfAnyFrame();
        ofTheLatestFrame();
        noSuchWhatOfHeard();
    }

    private static void aheadOfAnyFrame() {
        sentence(21, "(0 for all ahead of any)");
        RollCall x = withSeeds(SLOTTED, 0, 0);
        x.frame(0);
        x.frames();
        x.ask(0L, 0);
        for (int what = 0; what < 4; what++) {
            due("heard(" + what + ")", x.heard(what), 0);
        }
    }

    private static void ofTheLatestFrame() {
        sentence(21, "Of the latest frame, QUIET, ALONE, COLLISION slots, the length guessed next");
        RollCall x = withSeeds(SLOTTED, 0, 0);
        x.frame(2);
        due("quiet", x.heard(0), 1);
        due("alone", x.heard(1), 0);
        due("collision", x.heard(2), 1);
        due("guessed", x.heard(3), 2);
        x.act(0, GO);
        x.ask(0L, 0);
        x.frame(5);
        due("quiet", x.heard(0), 4);
        due("alone", x.heard(1), 1);
        due("collision", x.heard(2), 0);
        due("1 at least", x.heard(3), 1);
    }

    private static void noSuchWhatOfHeard() {
        sentence(21, "NONE for another what");
        RollCall x = withSeeds(SLOTTED, 0, 0);
        for (int round = 0; round < 2; round++) {
            for (int what : new int[] {MIN, -1, 4, 5, MAX}) {
                due("heard(" + what + ")", x.heard(what), NONE);
            }
            x.frame(5);
        }
    }

    // ---- 22, found, and 23, cost

    private static void found() {
        sentence(22, "from 0 on; NONE if there is none such");
        RollCall x = withTags(BIT, 1L, 2L);
        due("an empty row", x.found(0), NONE);
        x.pass();
        x.pass();
        due("the first", x.found(0), 0);
        due("the last", x.found(1), 1);
        for (int k : new int[] {MIN, -1, 2, 3, 199, 200, MAX}) {
            due("found(" + k + ")", x.found(k), NONE);
        }
        for (int k = 2; k < 205; k++) {
            due("pass", x.pass(), k % 2);
        }
        due("the 200th", x.found(199), 1);
        for (int k : new int[] {MIN, -1, 200, 201, MAX}) {
            due("found(" + k + ") of a full row", x.found(k), NONE);
        }
    }

    private static void cost() {
        slotsByKinds();
        noSuchWhatOfCost();
    }

    private static void slotsByKinds() {
        sentence(23, "of questions, counters, frames; of passes and verify(); all");
        RollCall x = withTags(SPLIT, 1L);
        for (int what = 0; what < 5; what++) {
            due("none yet", x.cost(what), 0);
        }
        x.ask(0L, 0);
        x.pass();
        x.descend();
        x.step();
        x.begin();
        x.split();
        x.frame(3);
        x.verify(0L);
        x.tag(SPLIT, 2L, 0);
        x.ask(0L, 0);
        // 0 and 305 part at bit 55: 1 and 3 for each of 56 bits.
        int[] costs = {2, 4, 1, 193 + 169, 7 + 193 + 169};
        for (int what = 0; what < 5; what++) {
            due("cost(" + what + ")", x.cost(what), costs[what]);
        }
    }

    private static void noSuchWhatOfCost() {
        sentence(23, "NONE for another what");
        RollCall x = withTags(SPLIT, 1L);
        x.ask(0L, 0);
        x.pass();
        for (int what : new int[] {MIN, -1, 5, 6, MAX}) {
            due("cost(" + what + ")", x.cost(what), NONE);
        }
    }

    // ---- 24, count

    private static void count() {
        countOfTags();
        countOfFound();
        countOfRows();
        callersCount();
        noSuchWhatOfCount();
    }

    private static void countOfTags() {
        sentence(24, "How many: 0 TAGS, 1 that LISTEN");
        RollCall x = new RollCall();
        for (int t = 0; t < 40; t++) {
            due("tags", x.count(0), t);
            due("that listen", x.count(1), t / 2);
            x.tag(t % 2 == 0 ? SLEEPER : BIT, t, 0);
        }
        x.tag(BIT, 40L, 0);
        due("forty", x.count(0), 40);
        due("that listen", x.count(1), 20);
    }

    private static void countOfFound() {
        sentence(24, "2 in the row of FOUND (200 at most)");
        RollCall x = withTags(SPLIT, 1L);
        for (int k = 0; k < 203; k++) {
            due("found", x.count(2), Math.min(k, 200));
            x.pass();
        }
    }

    private static void countOfRows() {
        sentence(24, "3 rows on the pile of the DESCENT");
        RollCall x = withTags(ASKED, 1L);
        due("none", x.count(3), 0);
        x.descend();
        due("one", x.count(3), 1);
        x.step();
        due("none", x.count(3), 0);
    }

    private static void callersCount() {
        sentence(24, "4 the caller's count of the SPLIT (NONE if none is under way)");
        RollCall x = withTags(SPLIT, 1L);
        due("none yet", x.count(4), NONE);
        x.begin();
        due("0", x.count(4), 0);
        x.split();
        due("over", x.count(4), NONE);
        x.split();
        due("over still", x.count(4), NONE);
    }

    private static void noSuchWhatOfCount() {
        sentence(24, "NONE for another what");
        RollCall x = withTags(SPLIT, 1L);
        for (int what : new int[] {MIN, -1, 5, 6, MAX}) {
            due("count(" + what + ")", x.count(what), NONE);
        }
    }

    // ---- 25, image, and 26, again

    private static void image() {
        fourImages();
        asItIsNow();
    }

    private static void fourImages() {
        sentence(25, "Image k (0 .. 3): true; false for another k");
        RollCall x = new RollCall();
        for (int k : new int[] {MIN, -1, 4, 5, MAX}) {
            due("image(" + k + ")", x.image(k), false);
        }
        for (int k = 0; k < 4; k++) {
            due("not made yet", x.again(k), false);
            due("image(" + k + ")", x.image(k), true);
            due("made", x.again(k), true);
        }
    }

    private static void asItIsNow() {
        sentence(25, "all that is told, as it is now");
        RollCall x = withTags(BIT, 1L);
        x.image(0);
        x.tag(BIT, 2L, 0);
        x.pass();
        x.image(1);
        x.pass();
        x.again(0);
        due("as it was, not as it came to be", x.count(0) * 10 + x.count(2), 10);
        x.again(1);
        due("each image for itself", x.count(0) * 10 + x.count(2), 21);
        x.pass();
        x.image(0);
        x.again(1);
        due("the other image is as it was", x.count(2), 1);
        x.again(0);
        due("a newer one is in its place", x.count(2), 2);
    }

    private static void again() {
        noSuchImage();
        sentence(26, "All that is as image k has it: true");
        emptyAndFullAgain();
        everyPartAgain();
        tagsAgain();
        newTagInAnOldPlace();
        wireAndGroupAgain();
        passesAgain();
        descentAgain();
        splitAgain();
        framesAgain();
        foundAgain();
    }

    private static void noSuchImage() {
        sentence(26, "false if there is none such");
        RollCall x = withTags(BIT, 1L);
        x.image(2);
        for (int k : new int[] {MIN, -1, 0, 1, 3, 4, MAX}) {
            due("again(" + k + ")", x.again(k), false);
        }
        due("again(2)", x.again(2), true);
    }

    private static void emptyAndFullAgain() {
        RollCall x = new RollCall();
        x.image(0);
        for (int t = 0; t < 40; t++) {
            x.tag(SPLIT, t, seedForSlot(t));
        }
        for (int round = 0; round < 30; round++) {
            x.frames();
            x.frame(64);
        }
        int last = x.found(199);
        int seed = x.tell(39, 5);
        int slots = x.cost(4);
        x.image(3);
        due("the empty one", x.again(0), true);
        due("no tags", x.count(0), 0);
        due("none found", x.count(2), 0);
        due("no cost", x.cost(4), 0);
        due("ahead of any frame", x.heard(3), 0);
        due("all names are free", x.tag(BIT, 39L, 5), 0);
        due("the full one", x.again(3), true);
        due("forty", x.count(0), 40);
        due("full", x.count(2), 200);
        due("the last of the row", x.found(199), last);
        due("the last one's seed", x.tell(39, 5), seed);
        due("cost", x.cost(4), slots);
        due("still full", x.tag(BIT, 77L, 0), NONE);
        due("the first one's kind", x.tell(0, 0), SPLIT);
    }

    private static void everyPartAgain() {
        RollCall x = withSeeds(SLEEPER, 0, 3, 5);
        x.tag(WEAK, FIRST, 0);
        x.wire(AIR);
        x.act(0, GO);
        x.group(1L << 9, 0L);
        x.begin();
        x.descend();
        x.step();
        x.frame(3);
        x.pass();
        x.ask(FIRST_OF_NAME, 1);
        long[] then = Told.now(x, 5);
        x.image(1);
        long first = Told.goingOn(x);
        x.wire(COPPER);
        x.act(0, COME_BACK);
        x.act(1, WAKE_UP);
        x.group(0L, 0L);
        x.begin();
        x.descend();
        x.frames();
        due("again", x.again(1), true);
        long[] now = Told.now(x, 5);
        for (int i = 0; i < then.length; i++) {
            due("told at place " + i, now[i], then[i]);
        }
        due("it goes on alike", Told.goingOn(x), first);
        due("once more", x.again(1), true);
        due("it goes on alike", Told.goingOn(x), first);
    }

    private static void tagsAgain() {
        RollCall x = new RollCall();
        x.image(0);
        x.tag(SLEEPER, 1L, 7);
        x.act(0, WAKE_UP);
        x.image(1);
        x.again(0);
        x.tag(BIT, 2L, 9);
        x.act(0, GO);
        x.again(1);
        due("name", x.name(0), 305L);
        int[] told = {SLEEPER, 1, 1, 1, NONE, 7, 0};
        for (int what = 0; what < told.length; what++) {
            due("tell(0, " + what + ")", x.tell(0, what), told[what]);
        }
        due("one", x.count(0), 1);
    }

    private static void newTagInAnOldPlace() {
        RollCall x = new RollCall();
        x.image(0);
        x.tag(SPLIT, 1L, 7);
        x.act(0, GO);
        x.tag(SPLIT, 2L, 7);
        x.begin();
        x.frame(1);
        x.again(0);
        x.tag(SPLIT, 3L, 0);
        x.tag(SPLIT, 4L, 3);
        due("there, as at its making", x.tell(0, 1), 1);
        due("no counter", x.tell(1, 4), NONE);
        due("not found in a frame yet", x.frame(64), 2);
    }

    private static void wireAndGroupAgain() {
        RollCall x = withTags(WEAK, 1L, 2L);
        x.tag(SLOTTED, 3L, 0);
        x.wire(AIR);
        x.image(0);
        x.wire(COPPER);
        x.group(-1L, 305L);
        x.image(1);
        x.group(-1L, 610L);
        x.again(1);
        due("in the group", x.tell(0, 3), 1);
        due("not in it", x.tell(1, 3), 0);
        x.again(0);
        due("all", x.count(1), 3);
        due("air", x.ask(0L, 0), ALONE);
        x.again(1);
        x.group(0L, 0L);
        due("copper", x.ask(0L, 0), COLLISION);
    }

    private static void passesAgain() {
        RollCall x = withTags(BIT, 0L, FIRST, FIRST | 1L);
        x.pass();
        x.pass();
        x.image(0);
        due("the third", x.pass(), 2);
        due("the first", x.pass(), 0);
        x.again(0);
        due("last fork", x.fork(0), 55);
        due("passes", x.fork(1), 2);
        due("the third again", x.pass(), 2);
    }

    private static void descentAgain() {
        RollCall x = withTags(ASKED, FIRST, FIRST | FIRST >>> 1, 0L, FIRST >>> 1);
        x.group(FIRST_OF_NAME, FIRST_OF_NAME);
        x.descend();
        x.step();
        x.step();
        x.step();
        x.image(0);
        x.group(0L, 0L);
        x.descend();
        x.step();
        x.step();
        due("1, 01 and 00", x.count(3), 3);
        x.again(0);
        due("11 and 10", x.count(3), 2);
        due("10", x.step(), ALONE);
        due("that", x.alone(), 0);
        due("11", x.step(), ALONE);
        due("that", x.alone(), 1);
        due("over", x.step(), NONE);
    }

    private static void splitAgain() {
        RollCall x = withSeeds(SPLIT, 0, 3);
        x.begin();
        x.split();
        x.image(0);
        x.split();
        x.split();
        due("over", x.count(4), NONE);
        x.again(0);
        due("caller", x.count(4), 1);
        due("counter", x.tell(0, 4), 0);
        due("counter", x.tell(1, 4), 1);
        due("seed", x.tell(1, 5), -984409216);
        due("none was alone", x.alone(), NONE);
        due("alone", x.split(), ALONE);
    }

    private static void framesAgain() {
        RollCall x = withSeeds(SLOTTED, 0, 0, 3);
        x.frame(64);
        x.image(0);
        x.act(0, GO);
        x.frames();
        x.frame(1);
        x.frame(5);
        x.again(0);
        due("quiet", x.heard(0), 62);
        due("alone", x.heard(1), 1);
        due("collisions", x.heard(2), 1);
        due("guess", x.heard(3), 2);
        due("cost", x.cost(4), 64);
        x.act(0, GO);
        due("one was not found in a frame then", x.frame(1), 1);
        due("that", x.found(1), 1);
    }

    private static void foundAgain() {
        RollCall x = withTags(BIT, 1L, 2L);
        x.image(0);
        x.pass();
        x.pass();
        x.image(1);
        x.again(0);
        due("none", x.found(0), NONE);
        x.act(0, GO);
        x.pass();
        x.again(1);
        due("the first", x.found(0), 0);
        due("the second", x.found(1), 1);
        due("how often", x.tell(0, 6), 1);
        due("cost", x.cost(3), 386);
    }
}
