import java.util.ArrayDeque;
import java.util.ArrayList;
import java.util.Deque;
import java.util.List;
import java.util.TreeMap;

/**
 * The document's terms once more, in another form (names as texts of 64 characters, lists, maps),
 * slow and without thought of room, so that RollCall can be compared with it over long runs.
 */
final class Model {
    private static final class Tag {
        int number;
        int kind;
        String name;
        int seed;
        boolean there = true;
        boolean awake;
        Integer counter;
        boolean foundInFrame;

        Tag copy() {
            Tag t = new Tag();
            t.number = number;
            t.kind = kind;
            t.name = name;
            t.seed = seed;
            t.there = there;
            t.awake = awake;
            t.counter = counter;
            t.foundInFrame = foundInFrame;
            return t;
        }

        boolean under(String kindName) {
            switch (kindName) {
                case "BIT":
                    return true;
                case "ASKED":
                    return List.of(1, 2, 3, 4, 5).contains(kind);
                case "SLOTTED":
                    return List.of(2, 3, 4, 5).contains(kind);
                case "SPLIT":
                    return List.of(3, 4).contains(kind);
                case "SLEEPER":
                    return kind == 4;
                case "WEAK":
                    return kind == 5;
                default:
                    throw new IllegalArgumentException(kindName);
            }
        }

        int draw(int n) {
            long product = 1103515245L * seed + 12345L;
            seed = (int) product;
            return (int) (((product & 0xFFFFFFFFL) / 65536L) % n);
        }
    }

    private List<Tag> tags = new ArrayList<>();
    private boolean air = false;
    private String mask = text(0L);
    private String groupBits = text(0L);
    private Integer lastFork = null;
    private String lastName = null;
    private int passes = 0;
    private Deque<String> pile = new ArrayDeque<>();
    private Integer callerCount = null;
    private Integer alone = null;
    private int[] frameSlots = new int[4];
    private List<Integer> found = new ArrayList<>();
    private int[] costs = new int[4];
    private final Model[] images = new Model[4];

    private static String text(long bits) {
        StringBuilder b = new StringBuilder();
        for (int i = 63; i >= 0; i--) {
            b.append((bits >> i & 1L) == 1L ? '1' : '0');
        }
        return b.toString();
    }

    /** The rest of a division of polynomials, which is what the SUM comes to. */
    static long sum(long first56) {
        long rest = first56 << 8;
        for (int i = 63; i >= 8; i--) {
            if ((rest >>> i & 1L) == 1L) {
                rest ^= 0x131L << (i - 8);
            }
        }
        return rest & 255L;
    }

    private void take(Model from) {
        tags = new ArrayList<>();
        for (Tag t : from.tags) {
            tags.add(t.copy());
        }
        air = from.air;
        mask = from.mask;
        groupBits = from.groupBits;
        lastFork = from.lastFork;
        lastName = from.lastName;
        passes = from.passes;
        pile = new ArrayDeque<>(from.pile);
        callerCount = from.callerCount;
        alone = from.alone;
        frameSlots = from.frameSlots.clone();
        found = new ArrayList<>(from.found);
        costs = from.costs.clone();
    }

    private boolean listens(Tag t) {
        if (!t.there || !t.awake) {
            return false;
        }
        for (int i = 0; i < 64; i++) {
            if (mask.charAt(i) == '1' && t.name.charAt(i) != groupBits.charAt(i)) {
                return false;
            }
        }
        return true;
    }

    private List<Tag> listeners(String kindName) {
        List<Tag> those = new ArrayList<>();
        for (Tag t : tags) {
            if (t.under(kindName) && listens(t)) {
                those.add(t);
            }
        }
        return those;
    }

    private Tag onlyVoice(List<Tag> speakers) {
        if (speakers.size() == 1) {
            return speakers.get(0);
        }
        List<Tag> strong = new ArrayList<>(speakers);
        strong.removeIf(t -> t.under("WEAK"));
        return air && strong.size() == 1 ? strong.get(0) : null;
    }

    private int sound(List<Tag> speakers) {
        if (speakers.isEmpty()) {
            return 0;
        }
        return onlyVoice(speakers) != null ? 1 : 2;
    }

    private int slot(List<Tag> speakers) {
        int sound = sound(speakers);
        costs[sound]++;
        Tag voice = onlyVoice(speakers);
        alone = voice == null ? null : voice.number;
        return sound;
    }

    private void find(Tag t) {
        if (found.size() < 200) {
            found.add(t.number);
        }
    }

    boolean wire(int kind) {
        if (kind == 0 || kind == 1) {
            air = kind == 1;
            return true;
        }
        return false;
    }

    int tag(int kind, long number, int seed) {
        long first56 = number & 0x00FFFFFFFFFFFFFFL;
        String name = text(first56 << 8 | sum(first56));
        boolean taken = tags.stream().anyMatch(t -> t.name.equals(name));
        if (tags.size() == 40 || kind < 0 || kind > 5 || taken) {
            return -1;
        }
        Tag t = new Tag();
        t.number = tags.size();
        t.kind = kind;
        t.name = name;
        t.seed = seed;
        t.awake = kind != 4;
        tags.add(t);
        return t.number;
    }

    private Tag at(int tag) {
        return tag < 0 || tag >= tags.size() ? null : tags.get(tag);
    }

    long name(int tag) {
        return at(tag) == null ? 0L : Long.parseUnsignedLong(at(tag).name, 2);
    }

    boolean isName(long name) {
        return (name & 255L) == sum(name >>> 8);
    }

    int tell(int tag, int what) {
        Tag t = at(tag);
        if (t == null || what < 0 || what > 6) {
            return -1;
        }
        int counter = t.counter == null ? -1 : t.counter;
        int times = (int) found.stream().filter(f -> f == tag).count();
        int[] all = {t.kind, t.there ? 1 : 0, t.awake ? 1 : 0, listens(t) ? 1 : 0, counter, t.seed, times};
        return all[what];
    }

    boolean act(int tag, int what) {
        Tag t = at(tag);
        if (t == null) {
            return false;
        }
        if (what == 0 && t.there) {
            t.there = false;
            return true;
        }
        if (what == 1 && !t.there) {
            t.there = true;
            return true;
        }
        if (what == 2 && !t.awake) {
            t.awake = true;
            return true;
        }
        if (what == 3 && t.kind == 4 && t.awake) {
            t.awake = false;
            return true;
        }
        return false;
    }

    int group(long newMask, long bits) {
        mask = text(newMask);
        groupBits = text(bits);
        return listeners("BIT").size();
    }

    int pass() {
        List<Tag> in = listeners("BIT");
        Integer newFork = null;
        int slots = 1;
        for (int b = 0; b < 64 && !in.isEmpty(); b++) {
            slots += 3;
            char way = in.get(0).name.charAt(b);
            final int bit = b;
            final char firstTold = way;
            if (in.stream().anyMatch(t -> t.name.charAt(bit) != firstTold)) {
                way = '0';
                if (lastFork != null && b < lastFork) {
                    way = lastName.charAt(b);
                } else if (lastFork != null && b == lastFork) {
                    way = '1';
                }
                newFork = way == '0' ? Integer.valueOf(b) : newFork;
            }
            final char taken = way;
            in.removeIf(t -> t.name.charAt(bit) != taken);
        }
        costs[3] += slots;
        lastFork = newFork;
        passes = newFork == null ? 0 : passes + 1;
        if (in.isEmpty()) {
            return -1;
        }
        lastName = in.get(0).name;
        find(in.get(0));
        return in.get(0).number;
    }

    int fork(int what) {
        if (what == 0) {
            return lastFork == null ? -1 : lastFork;
        }
        return what == 1 ? passes : -1;
    }

    boolean verify(long name) {
        String called = text(name);
        int longest = -1;
        for (Tag t : listeners("BIT")) {
            int same = 0;
            while (same < 64 && t.name.charAt(same) == called.charAt(same)) {
                same++;
            }
            longest = Math.max(longest, same);
        }
        costs[3] += 1 + 3 * Math.min(64, longest + 1);
        return longest == 64;
    }

    private List<Tag> beginning(String row) {
        List<Tag> those = listeners("ASKED");
        those.removeIf(t -> !t.name.startsWith(row));
        return those;
    }

    int ask(long bits, int n) {
        return n < 0 || n > 64 ? -1 : slot(beginning(text(bits).substring(0, n)));
    }

    int alone() {
        return alone == null ? -1 : alone;
    }

    void descend() {
        pile.clear();
        pile.push("");
    }

    int step() {
        if (pile.isEmpty()) {
            return -1;
        }
        String row = pile.pop();
        int sound = slot(beginning(row));
        if (sound == 1) {
            find(tags.get(alone));
        }
        if (sound == 2 && row.length() < 64) {
            pile.push(row + "1");
            pile.push(row + "0");
        }
        return sound;
    }

    int nodes() {
        return nodes(listeners("ASKED"), 0);
    }

    private int nodes(List<Tag> speakers, int depth) {
        if (sound(speakers) != 2 || depth == 64) {
            return 1;
        }
        List<Tag> zeros = new ArrayList<>(speakers);
        List<Tag> ones = new ArrayList<>(speakers);
        zeros.removeIf(t -> t.name.charAt(depth) == '1');
        ones.removeIf(t -> t.name.charAt(depth) == '0');
        return 1 + nodes(zeros, depth + 1) + nodes(ones, depth + 1);
    }

    int begin() {
        for (Tag t : tags) {
            t.counter = null;
        }
        for (Tag t : listeners("SPLIT")) {
            t.counter = 0;
        }
        callerCount = 0;
        return listeners("SPLIT").size();
    }

    int split() {
        if (callerCount == null) {
            return -1;
        }
        List<Tag> counting = listeners("SPLIT");
        counting.removeIf(t -> t.counter == null);
        List<Tag> speakers = new ArrayList<>(counting);
        speakers.removeIf(t -> t.counter != 0);
        List<Tag> others = new ArrayList<>(counting);
        others.removeAll(speakers);
        int sound = slot(speakers);
        if (sound == 2) {
            speakers.forEach(t -> t.counter = t.draw(2));
            others.forEach(t -> t.counter++);
            callerCount++;
            return sound;
        }
        if (sound == 1) {
            Tag t = speakers.get(0);
            t.counter = null;
            find(t);
            t.awake = t.kind != 4;
        }
        others.forEach(t -> t.counter = t.counter > 0 ? t.counter - 1 : 0);
        callerCount = callerCount == 0 ? null : Integer.valueOf(callerCount - 1);
        return sound;
    }

    void frames() {
        tags.forEach(t -> t.foundInFrame = false);
    }

    int frame(int length) {
        if (length < 1 || length > 64) {
            return -1;
        }
        TreeMap<Integer, List<Tag>> slots = new TreeMap<>();
        for (Tag t : listeners("SLOTTED")) {
            if (!t.foundInFrame) {
                slots.computeIfAbsent(t.draw(length), s -> new ArrayList<>()).add(t);
            }
        }
        frameSlots = new int[4];
        frameSlots[0] = length - slots.size();
        for (List<Tag> speakers : slots.values()) {
            Tag voice = onlyVoice(speakers);
            if (voice == null) {
                frameSlots[2]++;
            } else {
                frameSlots[1]++;
                find(voice);
                voice.foundInFrame = true;
                voice.awake = voice.kind != 4;
            }
        }
        for (int s = 0; s < 3; s++) {
            costs[s] += frameSlots[s];
        }
        frameSlots[3] = frameSlots[2] == 0 ? 1 : Math.min(64, frameSlots[2] * 239 / 100);
        return frameSlots[1];
    }

    int heard(int what) {
        return what < 0 || what > 3 ? -1 : frameSlots[what];
    }

    int found(int k) {
        return k < 0 || k >= found.size() ? -1 : found.get(k);
    }

    int cost(int what) {
        if (what == 4) {
            return costs[0] + costs[1] + costs[2] + costs[3];
        }
        return what < 0 || what > 4 ? -1 : costs[what];
    }

    int count(int what) {
        int caller = callerCount == null ? -1 : callerCount;
        int[] all = {tags.size(), listeners("BIT").size(), found.size(), pile.size(), caller};
        return what < 0 || what > 4 ? -1 : all[what];
    }

    boolean image(int k) {
        if (k < 0 || k > 3) {
            return false;
        }
        images[k] = new Model();
        images[k].take(this);
        return true;
    }

    boolean again(int k) {
        if (k < 0 || k > 3 || images[k] == null) {
            return false;
        }
        take(images[k]);
        return true;
    }
}
