/** For each promise: ordinary inputs, the edges that the document names, and wrong inputs. */
public final class PromisesTest extends Words {
    private PromisesTest() {
    }

    public static void main(String[] args) {
        newObject();
        wire();
        tag();
        name();
        isName();
        tell();
        tellOfFound();
        act();
        group();
        pass();
        passWithChanges();
        passOfAll();
        fork();
        verify();
        ask();
        askOnAir();
        alone();
        descend();
        step();
        nodes();
        nodesOnAir();
        begin();
        split();
        splitWithChanges();
        frames();
        frame();
        frameWithSleepersAndWeak();
        heard();
        found();
        cost();
        count();
        image();
        again();
        againHasAll();
        fortyTags();
        Check.end();
    }

    private static void promise(int number, String title) {
        Check.about("promise " + number + ", " + title);
    }

    private static void newObject() {
        promise(1, "a new object");
        RollCall x = new RollCall();
        int[] counts = {0, 0, 0, 0, NONE};
        for (int what = 0; what < 5; what++) {
            due("count", x.count(what), counts[what]);
            due("cost", x.cost(what), 0);
        }
        for (int k = 0; k < 4; k++) {
            due("heard", x.heard(k), 0);
            due("again", x.again(k), false);
        }
        due("fork(0)", x.fork(0), NONE);
        due("fork(1)", x.fork(1), 0);
        due("alone", x.alone(), NONE);
        due("step", x.step(), NONE);
        due("split", x.split(), NONE);
        due("found", x.found(0), NONE);
        due("nodes", x.nodes(), 1);
        x.tag(WEAK, -1L, 0);
        x.tag(SLOTTED, 0L, 0);
        due("the group is of all", x.count(1), 2);
        due("the wire is of copper", x.ask(0L, 0), COLLISION);
    }

    private static void wire() {
        promise(2, "wire");
        RollCall x = new RollCall();
        x.tag(WEAK, 1L, 0);
        x.tag(SLOTTED, 2L, 0);
        due("wire(1)", x.wire(1), true);
        due("wire(1)", x.wire(1), true);
        due("air", x.ask(0L, 0), ALONE);
        due("wire(2)", x.wire(2), false);
        due("wire(-1)", x.wire(-1), false);
        due("wire(max)", x.wire(Integer.MAX_VALUE), false);
        due("still air", x.ask(0L, 0), ALONE);
        due("wire(0)", x.wire(0), true);
        due("copper", x.ask(0L, 0), COLLISION);
        due("wire(2)", x.wire(2), false);
        due("still copper", x.ask(0L, 0), COLLISION);
    }

    private static void tag() {
        promise(3, "tag");
        RollCall x = new RollCall();
        due("kind -1", x.tag(-1, 1L, 0), NONE);
        due("kind 6", x.tag(6, 1L, 0), NONE);
        due("kind min", x.tag(Integer.MIN_VALUE, 1L, 0), NONE);
        for (int kind = BIT; kind <= WEAK; kind++) {
            due("kind", x.tag(kind, kind, -kind), kind);
            due("its kind", x.tell(kind, 0), kind);
            due("its seed", x.tell(kind, 5), -kind);
        }
        due("the same name", x.tag(BIT, 3L, 0), NONE);
        due("the same lowest 56 bits", x.tag(BIT, 1L << 56 | 3L, 0), NONE);
        x.act(3, GO);
        due("the name of one that went", x.tag(BIT, 3L, 0), NONE);
        due("all 64 bits set", x.tag(BIT, -1L, 0), 6);
        due("the highest 8 count for nothing", x.name(6) >>> 8, (1L << 56) - 1);
        for (int t = 7; t < 40; t++) {
            due("more", x.tag(BIT, t, 0), t);
        }
        due("the 41st", x.tag(BIT, 1000L, 0), NONE);
        due("count", x.count(0), 40);
    }

    private static void name() {
        promise(4, "name");
        RollCall x = withTags(BIT, 1L, 0x12345678901234L, 0L);
        due("number 1", x.name(0), 0x131L);
        due("a longer one", x.name(1), 0x1234567890123400L | Model.sum(0x12345678901234L));
        due("number 0", x.name(2), 0L);
        due("none such", x.name(3), 0L);
        due("none such", x.name(-1), 0L);
        due("none such", x.name(Integer.MAX_VALUE), 0L);
        due("none such", x.name(Integer.MIN_VALUE), 0L);
        x.act(0, GO);
        due("one that went", x.name(0), 0x131L);
    }

    private static void isName() {
        promise(5, "isName");
        RollCall x = new RollCall();
        due("0", x.isName(0L), true);
        // "1234567" in bytes, by the text-book division by x^8 + x^5 + x^4 + 1.
        long seven = 0x31323334353637L;
        long name = seven << 8 | Model.sum(seven);
        due("a name", x.isName(name), true);
        for (int bit = 0; bit < 64; bit++) {
            due("one bit wrong", x.isName(name ^ 1L << bit), false);
        }
        long ones = (1L << 56) - 1;
        due("ones", x.isName(ones << 8 | Model.sum(ones)), true);
        x.tag(BIT, seven, 0);
        due("the tag's", x.name(0), name);
    }

    private static void tell() {
        promise(6, "tell");
        RollCall x = new RollCall();
        x.tag(SPLIT, 1L, 77);
        x.tag(SLEEPER, 2L, -5);
        due("kind", x.tell(0, 0), SPLIT);
        due("there", x.tell(0, 1), 1);
        due("awake", x.tell(0, 2), 1);
        due("listens", x.tell(0, 3), 1);
        due("counter", x.tell(0, 4), NONE);
        due("seed", x.tell(0, 5), 77);
        due("found", x.tell(0, 6), 0);
        due("a sleeper is there", x.tell(1, 1), 1);
        due("a sleeper is asleep", x.tell(1, 2), 0);
        due("and listens not", x.tell(1, 3), 0);
        due("a seed below 0", x.tell(1, 5), -5);
        x.act(1, WAKE_UP);
        due("awake it listens", x.tell(1, 3), 1);
        x.act(1, GO);
        due("went", x.tell(1, 1), 0);
        due("awake still", x.tell(1, 2), 1);
        due("went: listens not", x.tell(1, 3), 0);
        x.group(-1L, 0L);
        due("beyond the group", x.tell(0, 3), 0);
        due("there all the same", x.tell(0, 1), 1);
        for (int what = 0; what < 7; what++) {
            due("none such", x.tell(2, what), NONE);
            due("none such", x.tell(-1, what), NONE);
            due("none such", x.tell(40, what), NONE);
        }
        due("what 7", x.tell(0, 7), NONE);
        due("what -1", x.tell(0, -1), NONE);
        due("what min", x.tell(0, Integer.MIN_VALUE), NONE);
    }

    private static void tellOfFound() {
        promise(6, "tell of counters and found");
        RollCall x = withTags(SPLIT, 1L, 2L);
        x.pass();
        x.pass();
        x.pass();
        due("0 twice", x.tell(0, 6), 2);
        due("1 once", x.tell(1, 6), 1);
        x.act(1, GO);
        x.begin();
        due("counter", x.tell(0, 4), 0);
        due("no counter", x.tell(1, 4), NONE);
        x.split();
        due("found, no counter", x.tell(0, 4), NONE);
        due("0 three times", x.tell(0, 6), 3);
    }

    private static void act() {
        promise(7, "act");
        RollCall x = withTags(SLOTTED, 1L);
        x.tag(SLEEPER, 2L, 0);
        due("is there", x.act(0, COME_BACK), false);
        due("goes", x.act(0, GO), true);
        due("went", x.act(0, GO), false);
        due("not there", x.tell(0, 1), 0);
        due("comes back", x.act(0, COME_BACK), true);
        due("there", x.tell(0, 1), 1);
        due("is awake", x.act(0, WAKE_UP), false);
        due("no sleeper", x.act(0, FALL_ASLEEP), false);
        due("awake", x.tell(0, 2), 1);
        due("is asleep", x.act(1, FALL_ASLEEP), false);
        due("wakes up", x.act(1, WAKE_UP), true);
        due("is awake", x.act(1, WAKE_UP), false);
        due("falls asleep", x.act(1, FALL_ASLEEP), true);
        due("asleep", x.tell(1, 2), 0);
        due("goes asleep", x.act(1, GO), true);
        due("wakes up away", x.act(1, WAKE_UP), true);
        due("another what", x.act(0, 4), false);
        due("another what", x.act(0, -1), false);
        due("none such", x.act(2, GO), false);
        due("none such", x.act(-1, GO), false);
        due("none such", x.act(Integer.MAX_VALUE, GO), false);
        RollCall y = withTags(SPLIT, 1L);
        y.begin();
        y.act(0, GO);
        due("keeps its counter", y.tell(0, 4), 0);
    }

    private static void group() {
        promise(8, "group");
        RollCall x = withTags(BIT, FIRST, FIRST | 1L, 1L, 2L);
        x.tag(SLEEPER, FIRST | 2L, 0);
        due("all but the sleeper", x.group(0L, 0L), 4);
        due("bits beyond the mask", x.group(0L, -1L), 4);
        due("the first bit is 1", x.group(FIRST_OF_NAME, FIRST_OF_NAME), 2);
        due("count", x.count(1), 2);
        due("listens", x.tell(0, 3), 1);
        due("listens not", x.tell(2, 3), 0);
        due("the first bit is 0", x.group(FIRST_OF_NAME, ~FIRST_OF_NAME), 2);
        due("listens not", x.tell(0, 3), 0);
        due("listens", x.tell(2, 3), 1);
        due("one name", x.group(-1L, 305L), 1);
        due("nobody", x.group(-1L, 304L), 0);
        due("no pass", x.pass(), NONE);
        due("all again", x.group(0L, 304L), 4);
    }

    private static void pass() {
        promise(9, "pass");
        RollCall x = new RollCall();
        due("nobody", x.pass(), NONE);
        due("one slot", x.cost(3), 1);
        x.tag(BIT, 2L, 0);
        due("one", x.pass(), 0);
        due("193 slots", x.cost(3), 194);
        due("no fork: first one again", x.pass(), 0);
        x.tag(WEAK, FIRST | 1L, 0);
        x.tag(SPLIT, 3L, 0);
        x.tag(SLEEPER, 0L, 0);
        x.wire(1);
        // By name: 0 (2), 2 (3), 1 (first bit 1): forks at bits 0 and 55.
        due("the least", x.pass(), 0);
        due("last fork", x.fork(0), 55);
        due("at it 1", x.pass(), 2);
        due("last fork", x.fork(0), 0);
        due("a weak one on air", x.pass(), 1);
        due("over", x.fork(0), NONE);
        due("a first one again", x.pass(), 0);
        due("found", x.found(5), 0);
        due("in the row", x.count(2), 6);
        due("no other slots", x.cost(4), x.cost(3));
    }

    private static void passWithChanges() {
        promise(9, "pass with changes in between");
        RollCall x = withTags(BIT, 0L, 2L, 3L);
        due("0", x.pass(), 0);
        due("fork 54", x.fork(0), 54);
        due("2", x.pass(), 1);
        due("fork 55", x.fork(0), 55);
        x.tag(BIT, 1L, 0);
        due("ahead of the last fork the found name's way", x.pass(), 2);
        due("over", x.fork(0), NONE);
        due("0", x.pass(), 0);
        due("fork 55", x.fork(0), 55);
        x.act(0, GO);
        x.act(3, GO);
        due("nobody has the way: all tell 1, no fork", x.pass(), 2);
        due("none at 55 and no zero way", x.fork(0), NONE);
        due("a first one", x.pass(), 1);
        due("fork 55", x.fork(0), 55);
        x.group(-1L, 1L);
        due("nobody", x.pass(), NONE);
        due("the next is a first one", x.fork(0), NONE);
        due("no passes", x.fork(1), 0);
        x.group(0L, 0L);
        due("so it begins anew", x.pass(), 1);
    }

    private static void passOfAll() {
        promise(9, "pass over 40 tags");
        RollCall x = new RollCall();
        for (int t = 0; t < 40; t++) {
            x.tag(t % 4, (long) ((t * 7) % 40) << 50, 0);
        }
        for (int k = 0; k < 40; k++) {
            // 23 * 7 is 1 by 40, so tag 23k has the k-th name.
            due("the k-th by name", x.pass(), (23 * k) % 40);
            due("passes", x.fork(1), k == 39 ? 0 : k + 1);
        }
        due("slots", x.cost(3), 40 * 193);
    }

    private static void fork() {
        promise(10, "fork");
        RollCall x = withTags(BIT, 0L, FIRST, FIRST | 1L);
        due("first", x.fork(0), NONE);
        due("no passes", x.fork(1), 0);
        x.pass();
        due("bit 0", x.fork(0), 0);
        due("1 pass", x.fork(1), 1);
        x.pass();
        due("bit 55", x.fork(0), 55);
        due("2 passes", x.fork(1), 2);
        x.pass();
        due("over", x.fork(0), NONE);
        due("over", x.fork(1), 0);
        due("what 2", x.fork(2), NONE);
        due("what -1", x.fork(-1), NONE);
        due("what max", x.fork(Integer.MAX_VALUE), NONE);
    }

    private static void verify() {
        promise(11, "verify");
        RollCall x = new RollCall();
        due("nobody", x.verify(0L), false);
        due("one slot", x.cost(3), 1);
        x.tag(BIT, 1L, 0);
        x.tag(WEAK, FIRST, 0);
        due("a tag", x.verify(305L), true);
        due("193 slots", x.cost(3), 194);
        due("the last bit is another", x.verify(304L), false);
        due("somebody was in at all 64", x.cost(3), 387);
        due("out at bit 1", x.verify(3L << 62), false);
        due("1 and 3 for 2 bits", x.cost(3), 394);
        x.act(1, GO);
        due("out at bit 0", x.verify(FIRST_OF_NAME), false);
        due("1 and 3 for 1 bit", x.cost(3), 398);
        x.act(1, COME_BACK);
        x.pass();
        due("fork", x.fork(0), 0);
        due("of one", x.verify(x.name(1)), true);
        x.group(-1L, 305L);
        due("beyond the group", x.verify(x.name(1)), false);
        due("the row of passes is as it was", x.fork(0), 0);
        due("the row of passes is as it was", x.fork(1), 1);
        x.act(0, GO);
        due("nobody listens", x.verify(305L), false);
        due("the row of passes is as it was", x.fork(0), 0);
        due("nobody is found so", x.count(2), 1);
        due("not alone", x.alone(), NONE);
    }

    private static void ask() {
        promise(12, "ask");
        RollCall x = withTags(ASKED, FIRST, FIRST | FIRST >> 1);
        x.tag(BIT, 1L, 0);
        due("all", x.ask(0L, 0), COLLISION);
        due("bits behind n count for nothing", x.ask(-1L, 0), COLLISION);
        due("1", x.ask(FIRST_OF_NAME, 1), COLLISION);
        due("10", x.ask(FIRST_OF_NAME, 2), ALONE);
        due("10 and more", x.ask(FIRST_OF_NAME | 7L, 2), ALONE);
        due("11", x.ask(3L << 62, 2), ALONE);
        due("alone", x.alone(), 1);
        due("0: a BIT is not asked", x.ask(0L, 1), QUIET);
        due("its whole name", x.ask(305L, 64), QUIET);
        due("a whole name", x.ask(x.name(1), 64), ALONE);
        due("its last bit is another", x.ask(x.name(1) ^ 1L, 64), QUIET);
        due("63 bits of it", x.ask(x.name(1) ^ 1L, 63), ALONE);
        due("slots", x.cost(4), 11);
        due("n 65", x.ask(0L, 65), NONE);
        due("n -1", x.ask(0L, -1), NONE);
        due("n max", x.ask(0L, Integer.MAX_VALUE), NONE);
        due("refused: no slot", x.cost(4), 11);
        due("nobody is found so", x.count(2), 0);
        for (int kind = ASKED; kind <= WEAK; kind++) {
            RollCall y = withTags(kind, 9L);
            due("kind " + kind, y.ask(0L, 0), kind == SLEEPER ? QUIET : ALONE);
            y.act(0, WAKE_UP);
            due("awake", y.ask(0L, 0), ALONE);
            y.group(-1L, 0L);
            due("beyond the group", y.ask(0L, 0), QUIET);
        }
    }

    private static void askOnAir() {
        promise(12, "ask on air");
        RollCall x = withTags(WEAK, 1L, 2L);
        x.tag(SPLIT, 3L, 0);
        x.tag(ASKED, 4L, 0);
        x.wire(1);
        due("two strong ones", x.ask(0L, 0), COLLISION);
        due("none alone", x.alone(), NONE);
        x.act(3, GO);
        due("one strong one", x.ask(0L, 0), ALONE);
        due("that one", x.alone(), 2);
        x.act(2, GO);
        due("weak ones", x.ask(0L, 0), COLLISION);
        x.act(0, GO);
        due("one weak one", x.ask(0L, 0), ALONE);
        due("that one", x.alone(), 1);
        x.act(1, GO);
        due("nobody", x.ask(0L, 0), QUIET);
    }

    private static void alone() {
        promise(13, "alone");
        RollCall x = withTags(SPLIT, FIRST, 1L);
        due("none", x.alone(), NONE);
        x.ask(FIRST_OF_NAME, 1);
        due("of ask", x.alone(), 0);
        x.ask(0L, 65);
        x.step();
        x.split();
        due("refused calls change nothing", x.alone(), 0);
        x.pass();
        x.pass();
        x.frame(64);
        x.verify(305L);
        x.descend();
        x.begin();
        due("nor others", x.alone(), 0);
        x.step();
        due("a collision of step", x.alone(), NONE);
        x.step();
        due("of step", x.alone(), 1);
        x.act(0, GO);
        x.split();
        due("of split", x.alone(), 1);
        x.ask(3L, 64);
        due("a quiet ask", x.alone(), NONE);
    }

    private static void descend() {
        promise(14, "descend");
        RollCall x = withTags(ASKED, FIRST, 1L);
        due("none", x.count(3), 0);
        x.descend();
        due("the empty row", x.count(3), 1);
        due("no slot", x.cost(4), 0);
        x.step();
        due("two rows", x.count(3), 2);
        x.descend();
        due("anew", x.count(3), 1);
        due("the empty one is asked", x.step(), COLLISION);
        due("0 first", x.step(), ALONE);
        due("that", x.alone(), 1);
    }

    private static void step() {
        promise(15, "step");
        RollCall x = withTags(ASKED, FIRST, 1L, FIRST | 1L);
        x.tag(BIT, 2L, 0);
        due("none under way", x.step(), NONE);
        due("no slot", x.cost(4), 0);
        x.descend();
        due("all", x.step(), COLLISION);
        due("0", x.step(), ALONE);
        due("found", x.found(0), 1);
        for (int n = 1; n < 56; n++) {
            due("rows", x.count(3), n);
            due("1 and zeros", x.step(), COLLISION);
        }
        due("1, 54 zeros and 0", x.step(), ALONE);
        due("that", x.alone(), 0);
        due("1, 54 zeros and 1", x.step(), ALONE);
        due("that", x.alone(), 2);
        due("1, 53 zeros and 1", x.step(), QUIET);
        x.descend();
        int steps = 0;
        while (x.step() != NONE && steps < 500) {
            steps++;
        }
        // Collisions: the empty row, and 1 with 0 to 54 zeros behind it; each brings two rows.
        due("steps", steps, 1 + 2 * 56);
        due("as nodes tells", x.nodes(), steps);
        due("over", x.count(3), 0);
        due("found by name", x.found(3) * 100 + x.found(4) * 10 + x.found(5), 102);
        due("over", x.step(), NONE);
        RollCall y = withTags(SLEEPER, 1L);
        y.act(0, WAKE_UP);
        y.descend();
        due("a sleeper", y.step(), ALONE);
        due("stays awake", y.tell(0, 2), 1);
        y.act(0, GO);
        y.descend();
        due("nobody", y.step(), QUIET);
        due("over", y.step(), NONE);
    }

    private static void nodes() {
        promise(16, "nodes");
        RollCall x = new RollCall();
        due("nobody", x.nodes(), 1);
        x.tag(ASKED, 1L, 0);
        due("one", x.nodes(), 1);
        x.tag(BIT, 2L, 0);
        due("a BIT is not asked", x.nodes(), 1);
        x.tag(SLOTTED, FIRST, 0);
        due("two apart at bit 0", x.nodes(), 3);
        x.tag(SPLIT, FIRST | FIRST >> 1, 0);
        due("two of them apart at bit 1", x.nodes(), 5);
        x.tag(WEAK, 0L, 0);
        due("two apart at bit 55", x.nodes(), 5 + 2 * 55);
        x.act(4, GO);
        due("it went", x.nodes(), 5);
        x.tag(SLEEPER, FIRST >> 1, 0);
        due("asleep", x.nodes(), 5);
        x.act(5, WAKE_UP);
        due("awake", x.nodes(), 7);
        x.group(FIRST_OF_NAME, FIRST_OF_NAME);
        due("those of the group share bit 0", x.nodes(), 5);
        due("no slots", x.cost(4), 0);
        due("no descent", x.count(3), 0);
        x.ask(x.name(2), 64);
        x.nodes();
        due("alone is as it was", x.alone(), 2);
    }

    private static void nodesOnAir() {
        promise(16, "nodes on air");
        RollCall x = withTags(SLOTTED, 0L, FIRST);
        x.tag(WEAK, FIRST | 1L, 0);
        x.tag(WEAK, FIRST | 2L, 0);
        due("copper", x.nodes(), 1 + 2 * 56);
        x.wire(1);
        due("weak ones are drowned", x.nodes(), 3);
        x.act(0, GO);
        due("by one alone", x.nodes(), 1);
        x.act(1, GO);
        due("weak ones collide", x.nodes(), 1 + 2 * 55);
    }

    private static void begin() {
        promise(17, "begin");
        RollCall x = new RollCall();
        due("nobody", x.begin(), 0);
        due("under way all the same", x.count(4), 0);
        due("quiet", x.split(), QUIET);
        due("over", x.count(4), NONE);
        for (int kind = BIT; kind <= WEAK; kind++) {
            x.tag(kind, kind, 0);
        }
        due("SPLIT alone, the SLEEPER is asleep", x.begin(), 1);
        x.act(SLEEPER, WAKE_UP);
        due("a latecomer has none", x.tell(SLEEPER, 4), NONE);
        due("both", x.begin(), 2);
        for (int t = 0; t < 6; t++) {
            due("counter of " + t, x.tell(t, 4), t == SPLIT || t == SLEEPER ? 0 : NONE);
        }
        x.act(SPLIT, GO);
        due("one that went", x.begin(), 1);
        due("has none any more", x.tell(SPLIT, 4), NONE);
        x.group(-1L, 0L);
        due("beyond the group", x.begin(), 0);
        due("no slots for it", x.cost(4), 1);
    }

    private static void split() {
        promise(18, "split");
        RollCall x = new RollCall();
        x.tag(SPLIT, 1L, DRAWS_0);
        x.tag(SLEEPER, 2L, DRAWS_1_OF_2_AND_3_OF_4);
        x.tag(SLOTTED, 3L, 0);
        x.act(1, WAKE_UP);
        due("none under way", x.split(), NONE);
        due("no slot", x.cost(4), 0);
        x.begin();
        due("both", x.split(), COLLISION);
        due("drew 0", x.tell(0, 4), 0);
        due("its seed", x.tell(0, 5), 12345);
        due("drew 1", x.tell(1, 4), 1);
        due("caller", x.count(4), 1);
        due("one", x.split(), ALONE);
        due("that", x.alone(), 0);
        due("has none any more", x.tell(0, 4), NONE);
        due("one less", x.tell(1, 4), 0);
        due("caller", x.count(4), 0);
        due("the other", x.split(), ALONE);
        due("a sleeper found falls asleep", x.tell(1, 2), 0);
        due("has none any more", x.tell(1, 4), NONE);
        due("over", x.count(4), NONE);
        due("over", x.split(), NONE);
        due("found", x.found(0) * 10 + x.found(1), 1);
        due("in the row", x.count(2), 2);
        due("slots", x.cost(1) * 10 + x.cost(2), 21);
        due("a SLOTTED has no part", x.tell(2, 5), 0);
    }

    private static void splitWithChanges() {
        promise(18, "split with changes in between");
        RollCall x = new RollCall();
        x.tag(SPLIT, 1L, DRAWS_0);
        x.tag(SPLIT, 2L, DRAWS_0);
        x.tag(SPLIT, 3L, DRAWS_1_OF_2_AND_3_OF_4);
        x.begin();
        due("three", x.split(), COLLISION);
        due("two with one seed", x.split(), COLLISION);
        due("one more for the other", x.tell(2, 4), 2);
        due("caller", x.count(4), 2);
        x.act(2, GO);
        due("two", x.split(), COLLISION);
        due("one that went keeps its counter", x.tell(2, 4), 2);
        x.act(2, COME_BACK);
        x.act(0, GO);
        x.group(-1L, x.name(1));
        // The second and third draws of seed 0 (54236 and 42756) are even: still at 0.
        due("one of the group", x.split(), ALONE);
        due("that", x.alone(), 1);
        due("one beyond the group keeps its counter", x.tell(2, 4), 2);
        due("caller", x.count(4), 2);
        x.group(0L, 0L);
        due("quiet: one is away, one at 2", x.split(), QUIET);
        due("one less", x.tell(2, 4), 1);
        x.act(0, COME_BACK);
        x.tag(SPLIT, 9L, 0);
        due("one back at 0", x.split(), ALONE);
        due("that", x.alone(), 0);
        due("at 0 now", x.tell(2, 4), 0);
        due("caller", x.count(4), 0);
        due("the last", x.split(), ALONE);
        due("over, latecomer or not", x.count(4), NONE);
        due("the latecomer has no counter", x.tell(3, 4), NONE);
    }

    private static void frames() {
        promise(19, "frames");
        RollCall x = withTags(SLOTTED, 1L);
        due("found", x.frame(3), 1);
        due("not again", x.frame(3), 0);
        x.frames();
        due("heard of the latest frame still", x.heard(0), 3);
        due("found anew", x.frame(3), 1);
        due("in the row twice", x.tell(0, 6), 2);
        x.pass();
        x.frames();
        x.pass();
        due("found otherwise is not found in a frame", x.frame(1), 1);
    }

    private static void frame() {
        promise(20, "frame");
        RollCall x = new RollCall();
        x.tag(SLOTTED, 1L, DRAWS_1_OF_2_AND_3_OF_4);
        x.tag(SPLIT, 2L, DRAWS_0);
        x.tag(ASKED, 3L, DRAWS_0);
        due("length 0", x.frame(0), NONE);
        due("length 65", x.frame(65), NONE);
        due("length -1", x.frame(-1), NONE);
        due("length min", x.frame(Integer.MIN_VALUE), NONE);
        due("refused: no slots", x.cost(4), 0);
        due("refused: no draw", x.tell(1, 5), 0);
        due("in slots 3 and 0", x.frame(4), 2);
        due("in the order of the slots", x.found(0), 1);
        due("in the order of the slots", x.found(1), 0);
        due("its seed", x.tell(1, 5), 12345);
        due("an ASKED draws none", x.tell(2, 5), 0);
        due("slots", x.cost(0) * 10 + x.cost(1), 22);
        due("nobody left", x.frame(64), 0);
        due("no draw", x.tell(1, 5), 12345);
        due("64 quiet ones more", x.cost(0), 66);
        x.tag(SLOTTED, 4L, 5);
        due("a latecomer", x.frame(1), 1);
        x.frames();
        due("all in one slot", x.frame(1), 0);
        x.act(1, GO);
        x.group(-1L, x.name(0));
        due("one of the group", x.frame(1), 1);
        due("that", x.found(3), 0);
        due("alone is of other slots", x.alone(), NONE);
    }

    private static void frameWithSleepersAndWeak() {
        promise(20, "frame with sleepers and weak ones");
        RollCall x = withTags(SLEEPER, 1L);
        due("asleep", x.frame(1), 0);
        x.act(0, WAKE_UP);
        due("awake", x.frame(1), 1);
        due("falls asleep", x.tell(0, 2), 0);
        x.act(0, WAKE_UP);
        due("was found in a frame", x.frame(1), 0);
        RollCall y = withTags(WEAK, 1L, 2L);
        y.tag(SLOTTED, 3L, 0);
        due("copper", y.frame(1), 0);
        y.wire(1);
        due("the strong one on air", y.frame(1), 1);
        due("that", y.found(0), 2);
        due("the weak ones then collide", y.frame(1), 0);
        y.act(0, GO);
        due("one weak one", y.frame(1), 1);
        due("that", y.found(1), 1);
    }

    private static void heard() {
        promise(21, "heard");
        RollCall x = new RollCall();
        for (int pair = 0; pair < 3; pair++) {
            x.tag(SLOTTED, 2 * pair, pair);
            x.tag(SLOTTED, 2 * pair + 1, pair);
        }
        due("ahead of any", x.heard(3), 0);
        // Seeds 0, 1, 2 draw 0, 16838 and 33676: slots 0, 6 and 12 of 64.
        x.frame(64);
        due("quiet", x.heard(0), 61);
        due("alone", x.heard(1), 0);
        due("collisions", x.heard(2), 3);
        due("2.39 * 3, cut", x.heard(3), 7);
        x.act(1, GO);
        x.frame(0);
        due("refused: as it was", x.heard(3), 7);
        x.act(2, GO);
        x.act(3, GO);
        x.act(4, GO);
        x.act(5, GO);
        x.frame(5);
        due("quiet", x.heard(0), 4);
        due("alone", x.heard(1), 1);
        due("collisions", x.heard(2), 0);
        due("1 at least", x.heard(3), 1);
        x.act(2, COME_BACK);
        x.act(3, COME_BACK);
        x.frame(2);
        due("one collision", x.heard(2), 1);
        due("2.39, cut", x.heard(3), 2);
        due("what 4", x.heard(4), NONE);
        due("what -1", x.heard(-1), NONE);
        due("what max", x.heard(Integer.MAX_VALUE), NONE);
    }

    private static void found() {
        promise(22, "found");
        RollCall x = withTags(SPLIT, 1L, FIRST);
        due("none", x.found(0), NONE);
        x.pass();
        x.pass();
        x.descend();
        x.step();
        x.step();
        x.act(0, GO);
        x.begin();
        x.split();
        x.frame(1);
        int[] row = {0, 1, 0, 1, 1, NONE};
        for (int k = 0; k < row.length; k++) {
            due("found(" + k + ")", x.found(k), row[k]);
        }
        due("k -1", x.found(-1), NONE);
        due("k max", x.found(Integer.MAX_VALUE), NONE);
        due("k min", x.found(Integer.MIN_VALUE), NONE);
        for (int k = 5; k < 203; k++) {
            due("still found", x.pass(), 1);
        }
        due("200 at most", x.count(2), 200);
        due("the last", x.found(199), 1);
        due("none behind it", x.found(200), NONE);
        due("as often as it is in the row", x.tell(1, 6), 198);
        x.frames();
        due("found all the same", x.frame(1), 1);
        due("200 at most", x.count(2), 200);
    }

    private static void cost() {
        promise(23, "cost");
        RollCall x = withTags(SPLIT, 1L, FIRST);
        x.ask(-1L, 64);
        x.ask(0L, 0);
        x.ask(0L, 1);
        x.pass();
        x.verify(0L);
        x.act(1, GO);
        x.begin();
        x.split();
        x.descend();
        x.step();
        x.frame(3);
        due("quiet", x.cost(0), 3);
        due("alone", x.cost(1), 4);
        due("collisions", x.cost(2), 1);
        // 0 and 305 part at bit 55: 1 and 3 for each of 56 bits.
        due("passes and verify", x.cost(3), 193 + 169);
        due("all", x.cost(4), 8 + 193 + 169);
        due("what 5", x.cost(5), NONE);
        due("what -1", x.cost(-1), NONE);
        due("what min", x.cost(Integer.MIN_VALUE), NONE);
    }

    private static void count() {
        promise(24, "count");
        RollCall x = withTags(SPLIT, 1L, FIRST, FIRST | 1L);
        x.act(0, GO);
        due("tags", x.count(0), 3);
        due("that listen", x.count(1), 2);
        x.pass();
        due("found", x.count(2), 1);
        x.descend();
        x.step();
        due("rows", x.count(3), 2);
        due("no split", x.count(4), NONE);
        x.begin();
        due("a split", x.count(4), 0);
        x.split();
        due("after a collision", x.count(4), 1);
        due("what 5", x.count(5), NONE);
        due("what -1", x.count(-1), NONE);
        due("what max", x.count(Integer.MAX_VALUE), NONE);
    }

    private static void image() {
        promise(25, "image");
        RollCall x = withTags(SPLIT, 1L);
        due("k -1", x.image(-1), false);
        due("k 4", x.image(4), false);
        due("k max", x.image(Integer.MAX_VALUE), false);
        for (int k = 0; k < 4; k++) {
            due("none yet", x.again(k), false);
            due("k " + k, x.image(k), true);
            x.tag(SPLIT, 2L + k, 0);
        }
        for (int k = 3; k >= 0; k--) {
            due("again " + k, x.again(k), true);
            due("as it was then", x.count(0), k + 1);
        }
        x.pass();
        due("over an older one", x.image(0), true);
        x.pass();
        x.again(0);
        due("the newer one", x.count(2), 1);
    }

    private static void again() {
        promise(26, "again");
        RollCall x = withTags(SPLIT, 1L, 2L);
        due("none such", x.again(0), false);
        x.image(2);
        due("none such", x.again(1), false);
        due("k -1", x.again(-1), false);
        due("k 4", x.again(4), false);
        due("k min", x.again(Integer.MIN_VALUE), false);
        x.pass();
        due("again", x.again(2), true);
        due("as it was", x.count(2), 0);
        x.pass();
        x.tag(BIT, 77L, 0);
        x.act(0, GO);
        due("once more", x.again(2), true);
        due("as it was", x.count(2), 0);
        due("as it was", x.count(0), 2);
        due("there", x.tell(0, 1), 1);
        due("its name is free again", x.tag(BIT, 77L, 0), 2);
        RollCall other = withTags(SPLIT, 1L);
        due("images are of one object", other.again(2), false);
    }

    private static void dueAll(String when, RollCall x, long[] want) {
        long[] got = Told.now(x, 5);
        for (int i = 0; i < want.length; i++) {
            due(when + ", told at place " + i, got[i], want[i]);
        }
    }

    private static void againHasAll() {
        promise(26, "again has all");
        RollCall x = new RollCall();
        x.image(0);
        x.tag(SPLIT, FIRST, 3);
        x.tag(SLEEPER, 5L, 1);
        x.tag(WEAK, 6L, 2);
        x.tag(WEAK, 7L, 9);
        x.act(1, WAKE_UP);
        x.wire(1);
        x.group(FIRST_OF_NAME, 0L);
        x.group(1L << 40, 0L);
        x.begin();
        x.split();
        x.frame(2);
        x.descend();
        x.step();
        x.pass();
        x.ask(FIRST_OF_NAME, 1);
        long[] then = Told.now(x, 5);
        x.image(3);
        long first = Told.goingOn(x);
        x.tag(ASKED, 9L, 0);
        x.act(0, GO);
        x.act(1, FALL_ASLEEP);
        x.group(-1L, 0L);
        x.wire(0);
        x.begin();
        x.descend();
        x.frames();
        x.again(3);
        dueAll("again", x, then);
        due("it goes on alike", Told.goingOn(x), first);
        x.again(0);
        dueAll("as a new one", x, Told.now(new RollCall(), 5));
        for (int number = 20; number < 26; number++) {
            x.tag(ASKED, number, 0);
            x.pass();
        }
        x.ask(0L, 0);
        x.descend();
        x.step();
        x.again(3);
        dueAll("once more", x, then);
        due("it goes on alike", Told.goingOn(x), first);
    }

    private static void fortyTags() {
        promise(3, "forty tags, all calls");
        RollCall x = new RollCall();
        for (int t = 0; t < 40; t++) {
            x.tag(SLEEPER, (long) t << 50, t);
        }
        due("all asleep", x.count(1), 0);
        for (int t = 0; t < 40; t++) {
            due("wakes up", x.act(t, WAKE_UP), true);
        }
        x.image(1);
        due("group", x.group(0L, 0L), 40);
        due("ask", x.ask(0L, 0), COLLISION);
        // Numbers 0 .. 39 of 6 bits at the front: 1 + 2 + 3 + 5 + 10 + 20 rows with a collision.
        due("nodes", x.nodes(), 1 + 2 * (1 + 2 + 3 + 5 + 10 + 20));
        due("pass", x.pass(), 0);
        due("verify", x.verify(x.name(39)), true);
        due("begin", x.begin(), 40);
        due("split", x.split(), COLLISION);
        x.frames();
        int caught = x.frame(64);
        due("slots", x.heard(0) + x.heard(1) + x.heard(2), 64);
        due("those that were found are asleep", x.count(1), 40 - caught);
        due("and in the row, behind the pass", x.count(2), 1 + caught);
        due("again", x.again(1), true);
        due("all awake", x.count(1), 40);
    }
}
