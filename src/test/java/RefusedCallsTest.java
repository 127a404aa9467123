import java.util.function.Function;
import java.util.function.Supplier;

/**
 * "A refused call changes nothing.": two objects are brought into the same state, one is given a
 * call that is refused, and behind it both tell the same and go on alike.
 */
public final class RefusedCallsTest extends Words {
    private static final int TOLD_TAGS = 10;

    private RefusedCallsTest() {
    }

    public static void main(String[] args) {
        onANewOne();
        inTheMiddle();
        whenAllIsOver();
        whenAllIsFull();
        callsThatOnlyTell();
        Check.end();
    }

    private static void refused(Supplier<RollCall> state, String call, long want, Function<RollCall, Object> made) {
        RollCall x = state.get();
        RollCall twin = state.get();
        Object got = made.apply(x);
        due(call, got instanceof Boolean ? ((Boolean) got ? 1L : 0L) : ((Number) got).longValue(), want);
        dueTheSame(call, x, twin);
    }

    private static void dueTheSame(String call, RollCall x, RollCall twin) {
        long[] got = Told.now(x, TOLD_TAGS);
        long[] want = Told.now(twin, TOLD_TAGS);
        for (int i = 0; i < want.length; i++) {
            due("behind " + call + " told at place " + i, got[i], want[i]);
        }
        due("behind " + call + " it goes on", Told.goingOn(x), Told.goingOn(twin));
        for (int k = 0; k < 4; k++) {
            due("behind " + call + " image " + k, x.again(k), twin.again(k));
            due("behind " + call + " tags of image " + k, x.count(0), twin.count(0));
            due("behind " + call + " found of image " + k, x.count(2), twin.count(2));
        }
    }

    private static void about(String state) {
        Check.about("A refused call changes nothing, " + state);
    }

    /** Calls that are refused in every state. */
    private static void alwaysRefused(Supplier<RollCall> state) {
        for (int kind : new int[] {MIN, -1, 2, MAX}) {
            refused(state, "wire(" + kind + ")", 0, x -> x.wire(kind));
        }
        for (int kind : new int[] {MIN, -1, 6, MAX}) {
            refused(state, "tag(" + kind + ", 77, 0)", NONE, x -> x.tag(kind, 77L, 0));
        }
        for (int tag : new int[] {MIN, -1, 40, MAX}) {
            for (int what = GO; what <= FALL_ASLEEP; what++) {
                int act = what;
                refused(state, "act(" + tag + ", " + act + ")", 0, x -> x.act(tag, act));
            }
        }
        for (int n : new int[] {MIN, -1, 65, MAX}) {
            refused(state, "ask(0, " + n + ")", NONE, x -> x.ask(0L, n));
        }
        for (int length : new int[] {MIN, -1, 0, 65, MAX}) {
            refused(state, "frame(" + length + ")", NONE, x -> x.frame(length));
        }
        for (int k : new int[] {MIN, -1, 4, MAX}) {
            refused(state, "image(" + k + ")", 0, x -> x.image(k));
            refused(state, "again(" + k + ")", 0, x -> x.again(k));
        }
    }

    private static void onANewOne() {
        about("a new one");
        Supplier<RollCall> state = RollCall::new;
        alwaysRefused(state);
        refused(state, "step()", NONE, RollCall::step);
        refused(state, "split()", NONE, RollCall::split);
        for (int what = GO; what <= FALL_ASLEEP; what++) {
            int act = what;
            refused(state, "act(0, " + act + ")", 0, x -> x.act(0, act));
        }
        for (int image = 0; image < 4; image++) {
            int k = image;
            refused(state, "again(" + k + ")", 0, x -> x.again(k));
        }
    }

    /** In AIR, in a GROUP; passes, DESCENT and SPLIT under way; heard, found, alone; image 1. */
    private static RollCall inTheMiddleOfAll() {
        RollCall x = new RollCall();
        for (int t = 0; t < 8; t++) {
            x.tag(t < 6 ? t : SLEEPER, (long) t << 53 | t, t);
        }
        x.tag(SPLIT, 1L << 30, 8);
        x.act(4, WAKE_UP);
        x.act(6, WAKE_UP);
        x.act(2, GO);
        x.image(1);
        x.wire(AIR);
        x.group(1L << 38, 0L);
        x.begin();
        x.split();
        x.frame(3);
        x.act(6, WAKE_UP);
        x.descend();
        x.step();
        x.step();
        x.pass();
        x.ask(x.name(1), 64);
        return x;
    }

    private static void inTheMiddle() {
        about("in the middle of all");
        Supplier<RollCall> state = RefusedCallsTest::inTheMiddleOfAll;
        RollCall now = state.get();
        due("passes under way", now.fork(1), 1);
        due("a DESCENT under way", now.count(3) > 0, true);
        due("a SPLIT under way", now.count(4) > 0, true);
        due("one was found in a frame", now.heard(1), 1);
        due("one was alone", now.alone(), 1);
        due("one is beyond the GROUP", now.tell(8, 3), 0);
        alwaysRefused(state);
        for (int t = 0; t < 8; t++) {
            long taken = (long) t << 53 | t;
            refused(state, "tag(0, " + taken + ", 5)", NONE, x -> x.tag(BIT, taken, 5));
        }
        long sameLowest56 = 1L << 56 | 1L << 53 | 1L;
        refused(state, "tag with a taken name", NONE, x -> x.tag(BIT, sameLowest56, 5));
        refused(state, "act(9, 1): none such", 0, x -> x.act(9, COME_BACK));
        refused(state, "act(2, 0): went", 0, x -> x.act(2, GO));
        refused(state, "act(3, 1): there", 0, x -> x.act(3, COME_BACK));
        refused(state, "act(6, 2): awake", 0, x -> x.act(6, WAKE_UP));
        refused(state, "act(7, 3): asleep", 0, x -> x.act(7, FALL_ASLEEP));
        for (int t : new int[] {0, 1, 2, 3, 5}) {
            refused(state, "act(" + t + ", 3): no SLEEPER", 0, x -> x.act(t, FALL_ASLEEP));
        }
        for (int what : new int[] {MIN, -1, 4, MAX}) {
            refused(state, "act(6, " + what + ")", 0, x -> x.act(6, what));
        }
        for (int k : new int[] {0, 2, 3}) {
            refused(state, "again(" + k + ")", 0, x -> x.again(k));
        }
    }

    /** A DESCENT and a SPLIT have come to their ends, and a question found one ALONE behind them. */
    private static RollCall allOver() {
        RollCall x = withSeeds(SPLIT, 0, 3);
        x.descend();
        for (int steps = 0; steps < 113; steps++) {
            x.step();
        }
        x.begin();
        x.split();
        x.split();
        x.split();
        x.ask(x.name(1), 64);
        return x;
    }

    private static void whenAllIsOver() {
        about("when all is over");
        Supplier<RollCall> state = RefusedCallsTest::allOver;
        due("no rows", allOver().count(3), 0);
        due("no split", allOver().count(4), NONE);
        due("one was alone", allOver().alone(), 1);
        alwaysRefused(state);
        refused(state, "step()", NONE, RollCall::step);
        refused(state, "split()", NONE, RollCall::split);
    }

    /** Forty TAGS, 200 in the row of FOUND and all four images. */
    private static RollCall allFull() {
        RollCall x = new RollCall();
        for (int t = 0; t < 40; t++) {
            x.tag(t % 6 == SLEEPER ? SPLIT : t % 6, t, seedForSlot(t));
        }
        for (int k = 0; k < 4; k++) {
            x.image(k);
        }
        for (int round = 0; round < 30; round++) {
            x.frames();
            x.frame(64);
        }
        x.begin();
        x.split();
        x.descend();
        x.step();
        return x;
    }

    private static void whenAllIsFull() {
        about("when all is full");
        Supplier<RollCall> state = RefusedCallsTest::allFull;
        due("forty", allFull().count(0), 40);
        due("two hundred", allFull().count(2), 200);
        alwaysRefused(state);
        for (int kind = BIT; kind <= WEAK; kind++) {
            int of = kind;
            refused(state, "tag(" + of + ", 77, 1): there are 40", NONE, x -> x.tag(of, 77L, 1));
        }
        refused(state, "tag(0, 39, 1): that name too", NONE, x -> x.tag(BIT, 39L, 1));
    }

    private static void told(String call, Function<RollCall, Object> made) {
        RollCall x = inTheMiddleOfAll();
        made.apply(x);
        dueTheSame(call, x, inTheMiddleOfAll());
    }

    private static void callsThatOnlyTell() {
        Check.about("Calls that only tell change nothing either");
        for (int arg : new int[] {MIN, -1, 0, 1, 2, 3, 4, 5, 6, 7, 39, 40, 200, MAX}) {
            told("name(" + arg + ")", x -> x.name(arg));
            told("isName(" + arg + ")", x -> x.isName(arg));
            told("tell(0, " + arg + ")", x -> x.tell(0, arg));
            told("tell(" + arg + ", 4)", x -> x.tell(arg, 4));
            told("fork(" + arg + ")", x -> x.fork(arg));
            told("heard(" + arg + ")", x -> x.heard(arg));
            told("found(" + arg + ")", x -> x.found(arg));
            told("cost(" + arg + ")", x -> x.cost(arg));
            told("count(" + arg + ")", x -> x.count(arg));
        }
        told("alone()", RollCall::alone);
        told("nodes()", RollCall::nodes);
    }
}
