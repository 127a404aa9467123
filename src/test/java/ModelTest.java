import java.util.Random;

/** Long runs of calls, of many moods, on RollCall and on the model at once: every answer is compared. */
public final class ModelTest {
    private static final int RUNS = 2000;
    private static final int CALLS_OF_A_RUN = 512;
    private static final int MOODS = 7;

    private final RollCall program = new RollCall();
    private final Model model = new Model();
    private final Random random;
    private final int run;
    private final int mood;
    private final int tagsWanted;
    private final int spread;

    private ModelTest(int run) {
        this.run = run;
        random = new Random(run);
        mood = run % MOODS;
        tagsWanted = random.nextInt(44);
        spread = random.nextInt(4);
    }

    public static void main(String[] args) {
        for (int run = 0; run < RUNS && Check.wrongSoFar() == 0; run++) {
            new ModelTest(run).play();
        }
        Check.end();
    }

    private void play() {
        for (int call = 0; call < CALLS_OF_A_RUN && Check.wrongSoFar() == 0; call++) {
            if (call < tagsWanted) {
                makeTag();
            } else if (random.nextInt(3) == 0) {
                followMood();
            } else {
                anyCall(random.nextInt(25));
            }
        }
    }

    private void due(String call, long got, long want) {
        Check.due("run " + run + ": " + call, got, want);
    }

    private void due(String call, boolean got, boolean want) {
        Check.due("run " + run + ": " + call, got, want);
    }

    private long number() {
        switch (spread) {
            case 0:
                return random.nextInt(64);
            case 1:
                return (long) random.nextInt(64) << 50;
            case 2:
                return (long) random.nextInt(8) << 53 | (long) random.nextInt(4) << 30 | random.nextInt(4);
            default:
                return random.nextLong();
        }
    }

    private int edgy(int from, int to) {
        switch (random.nextInt(30)) {
            case 0:
                return from - 1;
            case 1:
                return to + 1;
            case 2:
                return Integer.MIN_VALUE;
            case 3:
                return Integer.MAX_VALUE;
            default:
                return from + random.nextInt(to - from + 1);
        }
    }

    private int someTag() {
        return edgy(0, Math.max(0, model.count(0) - 1));
    }

    private long someName() {
        long name = model.name(someTag());
        return random.nextInt(3) == 0 ? name ^ 1L << random.nextInt(64) : name;
    }

    private void makeTag() {
        int kind = edgy(0, 5);
        long number = number();
        int seed = random.nextInt(4) == 0 ? random.nextInt(4) : random.nextInt();
        due("tag(" + kind + ", " + number + ", " + seed + ")",
                program.tag(kind, number, seed), model.tag(kind, number, seed));
    }

    /** Each mood dwells on one way of finding, so that its rows of calls come to their ends. */
    private void followMood() {
        switch (mood) {
            case 0:
                due("pass()", program.pass(), model.pass());
                break;
            case 1:
                due("step()", program.step(), model.step());
                break;
            case 2:
                due("split()", program.split(), model.split());
                break;
            case 3:
                frame();
                break;
            case 4:
                wakeAll();
                break;
            case 5:
                due("group(0, 0)", program.group(0L, 0L), model.group(0L, 0L));
                break;
            default:
                anyCall(random.nextInt(25));
        }
    }

    private void wakeAll() {
        int tag = someTag();
        int what = 1 + random.nextInt(2);
        due("act(" + tag + ", " + what + ")", program.act(tag, what), model.act(tag, what));
    }

    private void frame() {
        int length = random.nextBoolean() ? edgy(1, 64) : edgy(1, 8);
        due("frame(" + length + ")", program.frame(length), model.frame(length));
    }

    private void group() {
        long mask = random.nextInt(3) == 0 ? 0L : 1L << random.nextInt(64) | 1L << random.nextInt(64);
        long bits = random.nextBoolean() ? someName() : random.nextLong();
        due("group(" + mask + ", " + bits + ")", program.group(mask, bits), model.group(mask, bits));
    }

    private void ask() {
        long bits = someName();
        int n = edgy(0, 64);
        due("ask(" + bits + ", " + n + ")", program.ask(bits, n), model.ask(bits, n));
    }

    private void anyCall(int which) {
        switch (which) {
            case 0:
                int kind = edgy(0, 1);
                due("wire(" + kind + ")", program.wire(kind), model.wire(kind));
                break;
            case 1:
                makeTag();
                break;
            case 2:
                int named = someTag();
                due("name(" + named + ")", program.name(named), model.name(named));
                break;
            case 3:
                long name = someName();
                due("isName(" + name + ")", program.isName(name), model.isName(name));
                break;
            case 4:
            case 5:
                int told = someTag();
                int of = edgy(0, 6);
                due("tell(" + told + ", " + of + ")", program.tell(told, of), model.tell(told, of));
                break;
            case 6:
                int actor = someTag();
                int act = edgy(0, 3);
                due("act(" + actor + ", " + act + ")", program.act(actor, act), model.act(actor, act));
                break;
            case 7:
                group();
                break;
            case 8:
                due("pass()", program.pass(), model.pass());
                break;
            case 9:
                int fork = edgy(0, 1);
                due("fork(" + fork + ")", program.fork(fork), model.fork(fork));
                break;
            case 10:
                long called = someName();
                due("verify(" + called + ")", program.verify(called), model.verify(called));
                break;
            case 11:
                ask();
                break;
            case 12:
                due("alone()", program.alone(), model.alone());
                break;
            default:
                otherCall(which);
        }
    }

    private void otherCall(int which) {
        switch (which) {
            case 13:
                if (random.nextInt(4) == 0) {
                    program.descend();
                    model.descend();
                }
                break;
            case 14:
                due("step()", program.step(), model.step());
                break;
            case 15:
                due("nodes()", program.nodes(), model.nodes());
                break;
            case 16:
                if (random.nextInt(4) == 0) {
                    due("begin()", program.begin(), model.begin());
                }
                break;
            case 17:
                due("split()", program.split(), model.split());
                break;
            case 18:
                program.frames();
                model.frames();
                break;
            case 19:
                frame();
                break;
            case 20:
                int heard = edgy(0, 3);
                due("heard(" + heard + ")", program.heard(heard), model.heard(heard));
                break;
            case 21:
                int k = edgy(0, Math.max(0, model.count(2) - 1));
                due("found(" + k + ")", program.found(k), model.found(k));
                break;
            case 22:
                int cost = edgy(0, 4);
                due("cost(" + cost + ")", program.cost(cost), model.cost(cost));
                break;
            case 23:
                int count = edgy(0, 4);
                due("count(" + count + ")", program.count(count), model.count(count));
                break;
            default:
                imageOrAgain();
        }
    }

    private void imageOrAgain() {
        int k = edgy(0, 3);
        if (random.nextBoolean()) {
            due("image(" + k + ")", program.image(k), model.image(k));
        } else {
            due("again(" + k + ")", program.again(k), model.again(k));
        }
    }
}
