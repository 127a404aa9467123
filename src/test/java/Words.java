/** The document's words as numbers, and what the tests of single sentences have in common. */
abstract class Words {
    static final int NONE = RollCall.NONE;

    static final int BIT = 0;
    static final int ASKED = 1;
    static final int SLOTTED = 2;
    static final int SPLIT = 3;
    static final int SLEEPER = 4;
    static final int WEAK = 5;

    static final int COPPER = 0;
    static final int AIR = 1;

    static final int QUIET = 0;
    static final int ALONE = 1;
    static final int COLLISION = 2;

    static final int GO = 0;
    static final int COME_BACK = 1;
    static final int WAKE_UP = 2;
    static final int FALL_ASLEEP = 3;

    static final int MIN = Integer.MIN_VALUE;
    static final int MAX = Integer.MAX_VALUE;

    // The NAME's bit 0, in the number that tag() takes and in the NAME.
    static final long FIRST = 1L << 55;
    static final long FIRST_OF_NAME = Long.MIN_VALUE;

    // All of the 56 bits that tag() takes.
    static final long ONES = (1L << 56) - 1;

    // Seeds by their first draw: (1103515245 * 0 + 12345) >>> 16 is 0, that of 3 is 50515.
    static final int DRAWS_0 = 0;
    static final int DRAWS_1_OF_2_AND_3_OF_4 = 3;

    // At place s a SEED whose first draw below 64 is s; worked out apart from the program.
    private static final int[] SEED_FOR_SLOT = {
        0, 51, 41, 31, 21, 11, 1, 62, 52, 32, 22, 12, 2, 63, 53, 43,
        33, 23, 13, 3, 54, 44, 34, 24, 14, 4, 65, 45, 35, 25, 15, 5,
        66, 56, 46, 36, 26, 16, 6, 57, 47, 37, 27, 17, 7, 58, 48, 38,
        28, 18, 8, 69, 59, 49, 39, 29, 9, 70, 60, 50, 40, 30, 20, 10,
    };

    static int seedForSlot(int slotOf64) {
        return SEED_FOR_SLOT[slotOf64];
    }

    static void due(String call, long got, long want) {
        Check.due(call, got, want);
    }

    static void due(String call, boolean got, boolean want) {
        Check.due(call, got, want);
    }

    /** TAGS of one KIND, all with the SEED 0. */
    static RollCall withTags(int kind, long... numbers) {
        RollCall x = new RollCall();
        for (long number : numbers) {
            x.tag(kind, number, 0);
        }
        return x;
    }

    /** The same, with SLEEPERS woken up. */
    static RollCall withAwake(int kind, long... numbers) {
        RollCall x = withTags(kind, numbers);
        for (int t = 0; t < numbers.length; t++) {
            x.act(t, WAKE_UP);
        }
        return x;
    }

    /** TAGS of one KIND with the names 0, 1, 2 .. and these SEEDS, all awake. */
    static RollCall withSeeds(int kind, int... seeds) {
        RollCall x = new RollCall();
        for (int t = 0; t < seeds.length; t++) {
            x.tag(kind, t, seeds[t]);
            x.act(t, WAKE_UP);
        }
        return x;
    }
}
