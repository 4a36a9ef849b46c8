import java.util.HashMap;
import java.util.Map;
import java.util.TreeMap;

/**
 * Runs of calls from a fixed sequence, each answer against that of a model which follows the
 * document's terms one by one and throws its exceptions.
 */
public final class StageWalkerAgainstModel {
    // Each call is followed by three that ask for the state: an object stays below its 512 calls.
    private static final int RUNS = 12000;
    private static final int CALLS = 60;
    private static final int CALLS_BEFORE_BEGIN = 15;

    private static final class Trap extends RuntimeException {
        private static final long serialVersionUID = 1L;
        final int number;
        final long guest;
        final boolean entry;

        Trap(int number, long guest, boolean entry) {
            super(null, null, false, false);
            this.number = number;
            this.guest = guest;
            this.entry = entry;
        }
    }

    private static final class Model {
        private final Map<Integer, Integer> words = new HashMap<>();
        private final int[] roots = new int[3];
        private int rights;
        private int place = -1;
        private int second;
        private boolean entry;

        int poke(int address, int... five) {
            if (address < 0 || (address & 3) != 0 || address + 16L > 262140) {
                return -1;
            }
            for (int i = 0; i < 5; i++) {
                words.put(address + 4 * i, five[i]);
            }
            return address + 20;
        }

        int word(int address) {
            return words.getOrDefault(address, 0);
        }

        static boolean bit(long word, int which) {
            return (word >> which & 1) != 0;
        }

        static long bits(long word, int high, int low) {
            return word >> low & ((1L << high - low + 1) - 1);
        }

        static int byKind(int kind, int fetch, int load, int store) {
            return new int[] {fetch, load, store, load}[kind];
        }

        static Trap noByte(int kind) {
            return new Trap(byKind(kind, 1, 5, 7), 0, false);
        }

        boolean right(int which) {
            return bit(rights, which);
        }

        long memory(int kind, long place) {
            if (place < 0 || place > 262143) {
                throw noByte(kind);
            }
            return place;
        }

        /** An entry at an address of the first stage (stage 1) or of memory (stage 2, or modes U and S). */
        long read(int mode, int kind, int stage, long address) {
            long place = mode >= 2 && stage == 1 ? secondStage(kind, address, true) : address;
            return words.getOrDefault((int) memory(kind, place), 0) & 0xFFFFFFFFL;
        }

        boolean userFits(int mode, int kind, int stage, boolean user) {
            if (stage == 2 || mode == 0 || mode == 2) {
                return user;
            }
            boolean sum = mode == 1 ? right(0) : right(2);
            return !user || kind != 0 && sum;
        }

        boolean allows(int mode, int kind, int stage, boolean ofEntry, long leaf) {
            boolean r = bit(leaf, 1);
            boolean w = bit(leaf, 2);
            boolean x = bit(leaf, 3);
            if (!bit(leaf, 6) || !userFits(mode, kind, stage, bit(leaf, 4))) {
                return false;
            }
            if (ofEntry) {
                return r;
            }
            switch (kind) {
                case 0:
                    return x;
                case 1:
                    boolean vsMxr = mode >= 2 && stage == 1 && right(3);
                    return r || x && (right(1) || vsMxr);
                case 2:
                    return w && bit(leaf, 7);
                default:
                    return x;
            }
        }

        /** The result of a walk, or -1 for a fault. */
        long walk(int mode, int kind, int stage, boolean ofEntry, long root, long address) {
            long e = read(mode, kind, stage, root * 4096 + 4 * bits(address, stage == 1 ? 31 : 33, 22));
            if (!bit(e, 0) || bit(e, 2) && !bit(e, 1)) {
                return -1;
            }
            if (bit(e, 1) || bit(e, 2) || bit(e, 3)) {
                if (bits(e, 19, 10) != 0 || !allows(mode, kind, stage, ofEntry, e)) {
                    return -1;
                }
                return bits(e, 31, 20) << 22 | bits(address, 21, 0);
            }
            if (bit(e, 4) || bit(e, 6) || bit(e, 7)) {
                return -1;
            }
            long f = read(mode, kind, stage, 4096 * bits(e, 31, 10) + 4 * bits(address, 21, 12));
            if (!bit(f, 0) || bit(f, 2) && !bit(f, 1) || bits(f, 3, 1) == 0) {
                return -1;
            }
            if (!allows(mode, kind, stage, ofEntry, f)) {
                return -1;
            }
            return bits(f, 31, 10) << 12 | bits(address, 11, 0);
        }

        long secondStage(int kind, long address, boolean ofEntry) {
            if (!bit(roots[2], 31)) {
                return address;
            }
            long result = walk(3, kind, 2, ofEntry, bits(roots[2], 21, 2) << 2, address);
            if (result < 0) {
                throw new Trap(byKind(kind, 20, 21, 23), address, ofEntry);
            }
            return result;
        }

        long way(int mode, int kind, int address) {
            long asked = address & 0xFFFFFFFFL;
            int root = mode < 2 ? roots[0] : roots[1];
            long result = asked;
            if (bit(root, 31)) {
                result = walk(mode, kind, 1, false, bits(root, 21, 0), asked);
                if (result < 0) {
                    throw new Trap(byKind(kind, 12, 13, 15), 0, false);
                }
            }
            return memory(kind, mode < 2 ? result : secondStage(kind, result, false));
        }

        static boolean none(int mode, int kind) {
            return mode < 0 || mode > 3 || kind < 0 || kind > 3 || mode < 2 && kind == 3;
        }

        int translate(int mode, int kind, int address) {
            if (none(mode, kind)) {
                return -1;
            }
            try {
                place = (int) way(mode, kind, address);
                second = 0;
                entry = false;
                return 0;
            } catch (Trap t) {
                place = -1;
                second = (int) (t.guest / 4);
                entry = t.entry;
                return t.number;
            }
        }

        int pages(int mode, int kind, int address, int n) {
            if (none(mode, kind) || n < 1 || n > 1024) {
                return -1;
            }
            int count = 0;
            long asked = address & 0xFFFFFFFFL;
            for (int i = 0; i < n && asked < 1L << 32; i++, asked += 4096) {
                try {
                    way(mode, kind, (int) asked);
                    count++;
                } catch (Trap t) {
                    // leads nowhere
                }
            }
            return count;
        }
    }

    private static long state = 20260815L;
    private static int wrong = 0;
    private static final Map<String, Integer> SEEN = new TreeMap<>();

    private static int below(int bound) {
        state = state * 6364136223846793005L + 1442695040888963407L;
        return (int) ((state >>> 33) % bound);
    }

    private static int anyWord() {
        return below(1 << 16) << 16 | below(1 << 16);
    }

    private static void due(String call, long got, long want) {
        if (got != want) {
            wrong++;
            if (wrong < 50) {
                System.out.println(call + " answered " + got + ", the model " + want);
            }
        }
    }

    // Few frames hold the tables, so that walks often find something.
    private static int frame() {
        switch (below(24)) {
            case 0:
                return 64 + below(4);
            case 1:
                return below(1 << 22);
            case 2:
                return below(64);
            case 3:
                return below(16) << 18 | below(4096) & 1024;
            case 4:
                return below(4096) << 10;
            default:
                return below(16);
        }
    }

    private static int flags() {
        int full = 0xDF;
        switch (below(8)) {
            case 0:
                return below(1024);
            case 1:
            case 2:
                return 1;
            case 3:
                return full & ~16;
            case 4:
                return full ^ 1 << below(8);
            case 5:
                return full & ~16 ^ 1 << below(10);
            default:
                return full;
        }
    }

    private static int entryWord() {
        int flags = flags();
        if ((flags & 14) != 0 && below(4) == 0) {
            return below(2) == 0 ? flags : below(4096) << 20 | flags;
        }
        return frame() << 10 | flags;
    }

    private static int index() {
        int[] likely = {0, 0, 0, 5, 10, 1019, 1019, 1000, 2048, 3072, 4091};
        return likely[below(likely.length)];
    }

    private static int tableAddress() {
        return below(20) == 0 ? anyWord() >> below(32) : below(16) * 4096 + 4 * (index() % 1024);
    }

    private static int address() {
        if (below(30) == 0) {
            return anyWord();
        }
        int upper = index() % 1024 + below(5);
        int lower = index() % 1024 + below(5);
        return (upper & 1023) << 22 | (lower & 1023) << 12 | below(4096);
    }

    private static int root() {
        int on = below(8) == 0 ? 0 : 1 << 31;
        return on | below(2) * (below(512) << 22) | (below(20) == 0 ? frame() : below(16));
    }

    private static void fillTables(StageWalker x, Model m) {
        for (int frame = 0; frame < 16; frame++) {
            for (int from : new int[] {0, 5, 10, 1000, 1019}) {
                pokeBoth(x, m, frame * 4096 + 4 * from);
            }
        }
    }

    private static void pokeBoth(StageWalker x, Model m, int address) {
        int a = entryWord();
        int b = entryWord();
        int c = entryWord();
        int d = entryWord();
        int e = entryWord();
        due("poke(" + address + ")", x.poke(address, a, b, c, d, e), m.poke(address, a, b, c, d, e));
    }

    private static void translateBoth(StageWalker x, Model m) {
        int mode = below(30) == 0 ? below(7) - 2 : below(6) < 2 ? below(2) : 2 + below(2);
        int kind = below(30) == 0 ? below(8) - 2 : below(mode < 2 ? 3 : 4);
        int address = address();
        int want = m.translate(mode, kind, address);
        due("translate(" + mode + ", " + kind + ", " + address + ")", x.translate(mode, kind, address), want);
        SEEN.merge(want + (m.entry ? " at an entry" : ""), 1, Integer::sum);
    }

    private static void pagesBoth(StageWalker x, Model m) {
        int mode = below(30) == 0 ? below(7) - 2 : below(4);
        int kind = below(30) == 0 ? below(8) - 2 : below(mode < 2 ? 3 : 4);
        int n = below(10) == 0 ? below(1100) - 10 : 1 + below(12);
        int address = below(10) == 0 ? -below(6 * 4096) : address();
        String call = "pages(" + mode + ", " + kind + ", " + address + ", " + n + ")";
        due(call, x.pages(mode, kind, address, n), m.pages(mode, kind, address, n));
    }

    private static void rootsBoth(StageWalker x, Model m) {
        int[] roots = {root(), root(), root()};
        x.roots(roots[0], roots[1], roots[2]);
        System.arraycopy(roots, 0, m.roots, 0, 3);
    }

    private static void rightsBoth(StageWalker x, Model m) {
        int bits = anyWord();
        due("rights(" + bits + ")", x.rights(bits), m.rights);
        m.rights = bits & 15;
    }

    private static void call(StageWalker x, Model m) {
        int which = below(40);
        if (which < 2) {
            pokeBoth(x, m, tableAddress());
        } else if (which < 3) {
            int address = tableAddress();
            due("word(" + address + ")", x.word(address), m.word(address));
        } else if (which < 5) {
            rootsBoth(x, m);
        } else if (which < 8) {
            rightsBoth(x, m);
        } else if (which < 10) {
            pagesBoth(x, m);
        } else {
            translateBoth(x, m);
        }
        due("place()", x.place(), m.place);
        due("second()", x.second(), m.second);
        due("entry()", x.entry() ? 1 : 0, m.entry ? 1 : 0);
    }

    /** What was before begin() must not show after it. */
    private static void useAndBegin(StageWalker x) {
        Model m = new Model();
        fillTables(x, m);
        rootsBoth(x, m);
        for (int i = 0; i < CALLS_BEFORE_BEGIN; i++) {
            call(x, m);
        }
        x.begin();
    }

    public static void main(String[] args) {
        for (int run = 0; run < RUNS; run++) {
            StageWalker x = new StageWalker();
            if (run % 2 == 0) {
                useAndBegin(x);
            }
            Model m = new Model();
            fillTables(x, m);
            rootsBoth(x, m);
            for (int i = 0; i < CALLS; i++) {
                call(x, m);
            }
        }
        System.out.println("translations seen: " + SEEN);
        for (int number : new int[] {-1, 0, 1, 5, 7, 12, 13, 15, 20, 21, 23}) {
            due("whether " + number + " was seen", SEEN.containsKey("" + number) ? 1 : 0, 1);
        }
        System.out.println(wrong == 0 ? "all answers are as due" : wrong + " answers are not as due");
        if (wrong != 0) {
            System.exit(1);
        }
    }
}
