/** All that a RollCall tells of its state. */
final class Told {
    // Enough for 40 TAGS of 8 answers each and all the rest.
    private static final int MOST = 400;

    private Told() {
    }

    /** What is told of the first TAGS and of all else, at the same place for the same question. */
    static long[] now(RollCall x, int tags) {
        long[] all = new long[MOST];
        int n = 0;
        for (int t = 0; t < tags; t++) {
            all[n++] = x.name(t);
            for (int what = 0; what < 7; what++) {
                all[n++] = x.tell(t, what);
            }
        }
        for (int what = 0; what < 5; what++) {
            all[n++] = x.count(what);
            all[n++] = x.cost(what);
            all[n++] = x.heard(what);
            all[n++] = x.fork(what);
        }
        for (int k = 0; k < 12; k++) {
            all[n++] = x.found(k);
        }
        all[n++] = x.alone();
        all[n++] = x.nodes();
        return all;
    }

    /** What goes on from a state shows what no call tells: the pile's rows, who was found in frames. */
    static long goingOn(RollCall x) {
        long answers = 0L;
        for (int i = 0; i < 8; i++) {
            answers = answers * 31 + x.step();
            answers = answers * 31 + x.alone();
            answers = answers * 31 + x.split();
            answers = answers * 31 + x.pass();
            answers = answers * 31 + x.frame(2);
            answers = answers * 31 + x.cost(4);
        }
        return answers;
    }
}
