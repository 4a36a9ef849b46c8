/**
 * Each sentence of the document that names a boundary has a test of its own here; sentence() quotes
 * it, so that a wrong answer tells which one is broken.
 */
public final class StageWalkerBoundaries {
    private static final int ON = 1 << 31;
    private static final int V = 1;
    private static final int R = 2;
    private static final int W = 4;
    private static final int X = 8;
    private static final int U = 16;
    private static final int A = 64;
    private static final int D = 128;
    private static final int FULL = V | R | W | X | A | D;
    private static final int FULL_U = FULL | U;

    private static final int SUM = 1;
    private static final int MXR = 2;
    private static final int VS_SUM = 4;
    private static final int VS_MXR = 8;

    private static final int MODE_U = 0;
    private static final int MODE_S = 1;
    private static final int MODE_VU = 2;
    private static final int MODE_VS = 3;
    private static final int FETCH = 0;
    private static final int LOAD = 1;
    private static final int STORE = 2;
    private static final int EXEC = 3;

    private static final int[] NO_BYTE = {1, 5, 7, 5};
    private static final int[] FIRST_FAULT = {12, 13, 15, 13};
    private static final int[] SECOND_FAULT = {20, 21, 23, 21};

    private static final int MEMORY = 262144;
    private static final int PAGE = 4096;
    private static final int LARGE = 1 << 22;
    private static final int LAST = Integer.MAX_VALUE;
    private static final int LEAST = Integer.MIN_VALUE;

    // Frames of the tables: a root of the second stage fills four frames.
    private static final int ROOT = 8;
    private static final int TABLE = 12;
    private static final int GUEST_ROOT = 16;
    private static final int GUEST_TABLE = 17;

    private static int wrong = 0;
    private static String sentence = "";

    private static void sentence(String words) {
        sentence = words;
    }

    private static void due(String call, long got, long want) {
        if (got != want) {
            wrong++;
            System.out.println("\"" + sentence + "\": " + call + " answered " + got + ", due is " + want);
        }
    }

    private static int to(int frame, int flags) {
        return frame << 10 | flags;
    }

    private static int at(int frame, int index) {
        return frame * PAGE + 4 * index;
    }

    private static int lastKind(int mode) {
        return mode < MODE_VU ? STORE : EXEC;
    }

    /** An object, its words (poke writes five, a test often wants one), and the calls that it has had. */
    private static final class Box {
        private final StageWalker object = new StageWalker();
        private final int[] image = new int[MEMORY / 4];
        private int calls;

        StageWalker call() {
            calls++;
            due("the test's own calls of an object beyond 512", Math.max(calls, 512), 512);
            return object;
        }

        Box put(int address, int word) {
            int from = Math.min(address, MEMORY - 20);
            int i = from / 4;
            image[address / 4] = word;
            int behind = call().poke(from, image[i], image[i + 1], image[i + 2], image[i + 3], image[i + 4]);
            due("poke(" + from + ", ..)", behind, from + 20);
            return this;
        }

        Box roots(int atp, int vsAtp, int hgatp) {
            call().roots(atp, vsAtp, hgatp);
            return this;
        }

        Box rights(int bits) {
            call().rights(bits);
            return this;
        }

        void latest(int place, int second, boolean entry) {
            due("place()", call().place(), place);
            due("second()", call().second(), second);
            due("entry()", call().entry() ? 1 : 0, entry ? 1 : 0);
        }

        void answers(int mode, int kind, int address, int want) {
            due("translate(" + mode + ", " + kind + ", " + address + ")", call().translate(mode, kind, address), want);
        }

        void leads(int mode, int kind, int address, int place) {
            answers(mode, kind, address, 0);
            latest(place, 0, false);
        }

        /** An exception that is not the second stage's. */
        void traps(int mode, int kind, int address, int exception) {
            answers(mode, kind, address, exception);
            latest(-1, 0, false);
        }

        /** The second stage's exception at one of its addresses. */
        void refuses(int mode, int kind, int address, long at, boolean entry) {
            answers(mode, kind, address, SECOND_FAULT[kind]);
            latest(-1, (int) (at >> 2), entry);
        }

        void pages(int mode, int kind, int address, int n, int want) {
            String call = "pages(" + mode + ", " + kind + ", " + address + ", " + n + ")";
            due(call, call().pages(mode, kind, address, n), want);
        }

        void word(int address, int want) {
            due("word(" + address + ")", call().word(address), want);
        }
    }

    /**
     * The six uses of a walk, so that what is said of all walks is asked of each: by ATP, by VS ATP,
     * and by HGATP with a result and with an entry's place. The root is ROOT in all of them.
     */
    private enum Walk {
        OF_U(MODE_U, FULL_U), OF_S(MODE_S, FULL), OF_VU(MODE_VU, FULL_U), OF_VS(MODE_VS, FULL),
        OF_RESULT(MODE_VU, FULL_U), OF_ENTRY(MODE_VS, FULL_U);

        final int mode;
        final int good;

        Walk(int mode, int good) {
            this.mode = mode;
            this.good = good;
        }

        boolean second() {
            return this == OF_RESULT || this == OF_ENTRY;
        }

        /** Behind an entry's place the way goes on to a result, by entry 2 of the root: tests leave that alone. */
        Box box() {
            Box box = new Box();
            if (this == OF_ENTRY) {
                return box.put(at(ROOT, 2), to(0, FULL_U));
            }
            if (this == OF_RESULT) {
                return box.roots(0, 0, ON | ROOT);
            }
            return mode < MODE_VU ? box.roots(ON | ROOT, 0, 0) : box.roots(0, ON | ROOT, 0);
        }

        /** The address to be asked for so that the walk's own address is the one given. */
        private int asked(Box box, int address) {
            if (this != OF_ENTRY) {
                return address;
            }
            box.roots(0, ON | address >>> 12, ON | ROOT);
            return address << 20 & 0xFFC00000 | 4;
        }

        void leads(Box box, int kind, int address, int place) {
            int asked = asked(box, address);
            if (this != OF_ENTRY) {
                box.leads(mode, kind, asked, place);
                return;
            }
            int before = box.image[place / 4];
            box.put(place, to(2 << 10, FULL));
            box.leads(mode, kind, asked, 4);
            box.put(place, before);
        }

        void faults(Box box, int kind, int address) {
            int asked = asked(box, address);
            if (second()) {
                box.refuses(mode, kind, asked, address & 0xFFFFFFFFL, this == OF_ENTRY);
            } else {
                box.traps(mode, kind, asked, FIRST_FAULT[kind]);
            }
        }

        void noByte(Box box, int kind, int address) {
            box.traps(mode, kind, asked(box, address), NO_BYTE[kind]);
        }
    }

    /** VU and VS by both stages; the second one leads pages 0 .. 124, 64 of them memory's, to themselves. */
    private static Box both() {
        Box box = new Box();
        box.put(at(ROOT, 0), to(TABLE, V));
        box.put(at(GUEST_ROOT, 0), to(GUEST_TABLE, V));
        for (int page = 0; page < 125; page += 5) {
            for (int i = page; i < page + 5; i++) {
                box.image[at(TABLE, i) / 4] = to(i, FULL_U);
            }
            box.put(at(TABLE, page), to(page, FULL_U));
        }
        return box.roots(0, ON | GUEST_ROOT, ON | ROOT);
    }

    // ---- What it is

    private static void ofAtMost512Calls() {
        sentence("An object is used for at most 512 calls");
        StageWalker x = new StageWalker();
        for (int i = 0; i < 170; i++) {
            due("poke(0, ..)", x.poke(0, i, i, i, i, i), 20);
            due("pages(3, 3, 0, 1024)", x.pages(3, 3, 0, 1024), 64);
            due("word(16)", x.word(16), i);
        }
        due("call 511", x.translate(1, 2, 262143), 0);
        due("call 512", x.place(), 262143);
        StageWalker y = new StageWalker();
        for (int i = 0; i < 510; i++) {
            y.begin();
        }
        due("call 511", y.poke(MEMORY - 20, 1, 2, 3, 4, 5), MEMORY);
        due("call 512", y.word(MEMORY - 4), 5);
        StageWalker z = new StageWalker();
        due("call 1", z.translate(3, 3, 9), 0);
        for (int i = 2; i <= 512; i++) {
            due("call " + i, z.place(), 9);
        }
        StageWalker t = new StageWalker();
        for (int i = 1; i <= 512; i++) {
            due("call " + i, t.translate(i % 4, 1, MEMORY - i % 2), i % 2 == 0 ? 5 : 0);
        }
    }

    // ---- Terms

    private static void bytesOfMemory() {
        sentence("MEMORY: bytes 0 .. 262,143");
        for (int mode = 0; mode < 4; mode++) {
            Box box = new Box();
            for (int kind = 0; kind <= lastKind(mode); kind++) {
                box.leads(mode, kind, 0, 0);
                box.leads(mode, kind, MEMORY - 1, MEMORY - 1);
                box.traps(mode, kind, MEMORY, NO_BYTE[kind]);
                box.traps(mode, kind, MEMORY + 1, NO_BYTE[kind]);
            }
        }
    }

    private static void eachWordIsItsOwn() {
        sentence("four in a WORD");
        for (int from = 0; from < MEMORY; from += 1000) {
            StageWalker x = new StageWalker();
            int most = Math.min(from + 1000, MEMORY);
            int start = most - 1000;
            for (int a = start; a < most; a += 20) {
                due("poke(" + a + ", ..)", x.poke(a, a + 1, a + 5, a + 9, a + 13, a + 17), a + 20);
            }
            for (int a = start; a < most; a += 4) {
                due("word(" + a + ")", x.word(a), a + 1);
            }
            due("word below", x.word(start - 4), 0);
            due("word above", x.word(most), 0);
        }
    }

    private static void allWordsAreZeroAtFirst() {
        sentence("all words are 0 at first");
        for (int from = 0; from < MEMORY; from += 2048) {
            StageWalker x = new StageWalker();
            for (int a = from; a < from + 2048; a += 4) {
                due("word(" + a + ")", x.word(a), 0);
            }
        }
    }

    private static void numbersHave32Bits() {
        sentence("Numbers have 32 bits");
        for (int mode = 0; mode < 4; mode++) {
            Box box = new Box();
            for (int kind = 0; kind <= lastKind(mode); kind++) {
                for (int address : new int[] {-1, LEAST, LEAST + 4, LAST, -MEMORY, -PAGE}) {
                    box.traps(mode, kind, address, NO_BYTE[kind]);
                }
            }
        }
        // Entry 512 is the first one of the addresses with bit 31, entry 511 the last one before them.
        Box box = Walk.OF_S.box().put(at(ROOT, 511), to(0, FULL)).put(at(ROOT, 512), to(0, FULL_U));
        box.leads(MODE_S, LOAD, (511 << 22) + 9, 9);
        box.leads(MODE_U, LOAD, LEAST + 9, 9);
        box.traps(MODE_S, LOAD, LEAST + 9, 13);
    }

    private static void modes() {
        sentence("MODES: 0 U, 1 S, 2 VU, 3 VS");
        for (int mode : new int[] {-1, 4, 5, LAST, LEAST, -2, -4}) {
            Box box = new Box();
            for (int kind = 0; kind < 4; kind++) {
                box.answers(mode, kind, 0, -1);
                box.pages(mode, kind, 0, 1, -1);
            }
        }
        Box box = new Box();
        box.put(at(ROOT, 0), to(0, FULL)).put(at(ROOT, 1), to(0, FULL_U));
        box.roots(ON | ROOT, 0, 0);
        int[][] answers = {{13, 0}, {0, 13}, {0, 5}, {0, 5}};
        for (int mode = 0; mode < 4; mode++) {
            box.answers(mode, LOAD, 0, answers[mode][0]);
            box.answers(mode, LOAD, LARGE, answers[mode][1]);
        }
        box.roots(0, ON | ROOT, 0);
        int[][] virtual = {{0, 5}, {0, 5}, {13, 0}, {0, 13}};
        for (int mode = 0; mode < 4; mode++) {
            box.answers(mode, LOAD, 0, virtual[mode][0]);
            box.answers(mode, LOAD, LARGE, virtual[mode][1]);
        }
    }

    private static void kinds() {
        sentence("KINDS: 0 a fetch, 1 a load, 2 a store, 3 a load for EXECUTION (in VU and VS alone)");
        for (int mode = 0; mode < 4; mode++) {
            Box box = new Box();
            for (int kind = 0; kind <= lastKind(mode); kind++) {
                box.answers(mode, kind, 0, 0);
                box.pages(mode, kind, 0, 1, 1);
                box.answers(mode, kind, MEMORY, NO_BYTE[kind]);
            }
            for (int kind : new int[] {-1, lastKind(mode) + 1, 4, 5, LAST, LEAST, -3}) {
                box.answers(mode, kind, 0, -1);
                box.pages(mode, kind, 0, 1, -1);
            }
        }
    }

    /** What becomes of a root by a bit: it does not count, another frame is walked, or none that there is. */
    private static void rootBit(Walk walk, int bit, int root, boolean counts) {
        Box box = walk.box().put(at(ROOT, 0), to(0, walk.good));
        box.roots(walk.mode < 2 ? root : 0, walk.mode < 2 || walk.second() ? 0 : root, walk.second() ? root : 0);
        if (!counts) {
            box.leads(walk.mode, LOAD, 12, 12);
        } else if (bit < 6) {
            box.answers(walk.mode, LOAD, 12, walk.second() ? 21 : 13);
        } else {
            box.traps(walk.mode, LOAD, 12, 5);
        }
    }

    private static void countedBitsOfRoots() {
        sentence("ROOTS: .. of which bits 31 and 21 .. 0 count (of HGATP 31 and 21 .. 2)");
        for (Walk walk : new Walk[] {Walk.OF_U, Walk.OF_S, Walk.OF_VU, Walk.OF_VS, Walk.OF_RESULT}) {
            for (int bit = 0; bit < 31; bit++) {
                boolean counts = bit < 22 && (bit > 1 || !walk.second());
                rootBit(walk, bit, (ON | ROOT) ^ 1 << bit, counts);
            }
            rootBit(walk, 22, ON | 0x7FC00000 | ROOT, false);
            rootBit(walk, 21, -1, true);
            Box box = walk.box().put(at(ROOT, 0), to(0, walk.good)).roots(LAST, LAST, LAST);
            box.leads(walk.mode, LOAD, 4096, 4096);
            box.traps(walk.mode, LOAD, LARGE, 5);
        }
        rootBit(Walk.OF_RESULT, 0, ON | ROOT | 3, false);
    }

    private static void bitsOfRights() {
        sentence("RIGHTS: bit 0 SUM, 1 MXR, 2 VS SUM, 3 VS MXR");
        for (int bit = -1; bit < 32; bit++) {
            int rights = bit < 0 ? 0 : 1 << bit;
            Box box = new Box().rights(rights);
            box.put(at(ROOT, 0), to(0, FULL_U)).put(at(ROOT, 1), to(0, V | X | A));
            box.roots(ON | ROOT, ON | ROOT, 0);
            box.answers(MODE_S, LOAD, 0, rights == SUM ? 0 : 13);
            box.answers(MODE_S, LOAD, LARGE, rights == MXR ? 0 : 13);
            box.answers(MODE_VS, LOAD, 0, rights == VS_SUM ? 0 : 13);
            box.answers(MODE_VS, LOAD, LARGE, rights == MXR || rights == VS_MXR ? 0 : 13);
        }
    }

    private static void upperTenBits() {
        sentence("the entry at the root's frame, 4 times the upper ten bits (22 to 31 ..) behind it");
        for (Walk walk : new Walk[] {Walk.OF_U, Walk.OF_S, Walk.OF_VU, Walk.OF_VS, Walk.OF_RESULT}) {
            for (int index : new int[] {0, 1, 2, 511, 512, 1022, 1023}) {
                Box box = walk.box().put(at(ROOT, index), to(0, walk.good));
                int from = index << 22;
                walk.leads(box, LOAD, from, 0);
                walk.leads(box, LOAD, from + MEMORY - 1, MEMORY - 1);
                walk.noByte(box, LOAD, from + MEMORY);
                walk.noByte(box, LOAD, from + LARGE - 1);
                walk.faults(box, LOAD, from - 1);
                walk.faults(box, LOAD, from + LARGE);
            }
        }
        // The last frame's last entry is the last word of memory.
        Box box = new Box().put(at(63, 1023), to(0, FULL)).roots(ON | 63, 0, 0);
        box.leads(MODE_S, STORE, -LARGE, 0);
        box.traps(MODE_S, STORE, -LARGE - 1, 15);
    }

    private static void twelveBitsOfTheSecondStage() {
        sentence("of the second stage twelve bits, 22 to 33");
        int[] indices = {0, 1, 3, 1023, 1024, 2047, 2048, 3072, 4094, 4095};
        for (int index : indices) {
            Box box = new Box().put(at(60, index), to(0, FULL_U));
            box.put(at(GUEST_ROOT, 0), to(index << 10, FULL)).put(at(GUEST_ROOT, 1), to((index ^ 1024) << 10, FULL));
            box.put(at(GUEST_ROOT, 2), to((index ^ 2048) << 10, FULL));
            box.put(at(GUEST_ROOT, 3), to((index ^ 1) << 10, FULL));
            box.roots(0, ON | GUEST_ROOT, ON | 60);
            // The entries' places lie in the first 4 MiB: these go by a leaf of their own.
            if (index != 0) {
                box.put(at(60, 0), to(0, FULL_U));
            }
            box.leads(MODE_VS, LOAD, 8, 8);
            for (int other = 1; other < 4; other++) {
                int which = index ^ new int[] {0, 1024, 2048, 1}[other];
                if (which == 0) {
                    box.leads(MODE_VS, LOAD, other * LARGE + 8, 8);
                } else {
                    box.refuses(MODE_VS, LOAD, other * LARGE + 8, ((long) which << 22) + 8, false);
                }
            }
        }
    }

    private static void nextTenBits() {
        sentence("the entry at 4 times the next ten bits (12 to 21)");
        for (Walk walk : Walk.values()) {
            for (int index : new int[] {0, 1, 511, 512, 1022, 1023}) {
                Box box = walk.box().put(at(ROOT, 0), to(TABLE, V)).put(at(ROOT, 1), to(TABLE, V));
                box.put(at(TABLE, index), to(40, walk.good));
                walk.leads(box, LOAD, index * PAGE, 40 * PAGE);
                walk.leads(box, LOAD, index * PAGE + 4092, 41 * PAGE - 4);
                walk.leads(box, LOAD, LARGE + index * PAGE + 4092, 41 * PAGE - 4);
                walk.faults(box, LOAD, LARGE + index * PAGE - 4);
                walk.faults(box, LOAD, (index + 1) % 1024 * PAGE);
            }
        }
    }

    private static void tableOfAnEntry() {
        sentence("4,096 times its bits 31 .. 10 is the table");
        for (Walk walk : Walk.values()) {
            for (int frame : new int[] {0, 1, 32, 63}) {
                Box box = walk.box().put(at(ROOT, 0), to(frame, V)).put(at(frame, 1023), to(40, walk.good));
                walk.leads(box, LOAD, 1023 * PAGE, 40 * PAGE);
                walk.faults(box, LOAD, 1022 * PAGE);
            }
            for (int bit = 6; bit < 22; bit++) {
                Box box = walk.box().put(at(ROOT, 0), to(1 << bit, V)).put(0, to(40, walk.good));
                walk.noByte(box, LOAD, 0);
            }
            Box box = walk.box().put(at(ROOT, 0), to(TABLE, V | 32 | 256 | 512)).put(at(TABLE, 0), to(40, walk.good));
            walk.leads(box, LOAD, 0, 40 * PAGE);
        }
    }

    private static void leafBits() {
        sentence("a LEAF, if bit 1, 2 or 3 (R, W, X) is set");
        for (Walk walk : Walk.values()) {
            int user = walk.good & U;
            Box box = walk.box().put(at(TABLE, 5), to(40, walk.good));
            // Taken for the table that it points to, each of these would lead; as a leaf it is a fault.
            for (int flags : new int[] {V | R | A, V | R | W | A, V | R | W | X | A, V | R | X | A}) {
                box.put(at(ROOT, 0), to(0, flags | user));
                walk.leads(box, LOAD, 5 * PAGE, 5 * PAGE);
                box.put(at(ROOT, 0), to(TABLE, flags | user));
                walk.faults(box, LOAD, 5 * PAGE);
            }
            box.put(at(ROOT, 0), to(0, V | X | A | user));
            if (walk != Walk.OF_ENTRY) {
                walk.leads(box, FETCH, 5 * PAGE, 5 * PAGE);
            }
            for (int flags : new int[] {V | R, V | W, V | X, V | R | W | X}) {
                box.put(at(ROOT, 0), to(TABLE, flags));
                walk.faults(box, LOAD, 5 * PAGE);
            }
            box.put(at(ROOT, 0), to(TABLE, V));
            walk.leads(box, LOAD, 5 * PAGE, 40 * PAGE);
        }
    }

    /** A fault of the walk for each kind, by this entry of the first table and this one of the second. */
    private static void faultsFor(Walk walk, int first, int next) {
        Box box = walk.box().put(at(ROOT, 0), first).put(at(TABLE, 5), next);
        for (int kind = 0; kind <= lastKind(walk.mode); kind++) {
            walk.faults(box, kind, 5 * PAGE);
        }
    }

    private static void leadsFor(Walk walk, int first, int next, int place) {
        Box box = walk.box().put(at(ROOT, 0), first).put(at(TABLE, 5), next);
        for (int kind = 0; kind <= lastKind(walk.mode); kind++) {
            walk.leads(box, kind, 5 * PAGE, place);
        }
    }

    private static void fullTables() {
        sentence("A WALK by a root");
        for (Walk walk : Walk.values()) {
            leadsFor(walk, to(TABLE, V), to(40, walk.good), 40 * PAGE);
            leadsFor(walk, to(0, walk.good), 0, 5 * PAGE);
        }
    }

    private static void emptyTables() {
        sentence("A FAULT: an entry has bit 0 (V) clear");
        for (Walk walk : Walk.values()) {
            faultsFor(walk, 0, to(40, walk.good));
            faultsFor(walk, to(TABLE, 0), to(40, walk.good));
            faultsFor(walk, to(0, walk.good & ~V), to(40, walk.good));
            faultsFor(walk, to(TABLE, V), 0);
            faultsFor(walk, to(TABLE, V), to(40, walk.good & ~V));
            faultsFor(walk, to(-1, 0), to(40, walk.good));
        }
    }

    private static void writeWithoutRead() {
        sentence("A FAULT: .. or W without R");
        for (Walk walk : Walk.values()) {
            faultsFor(walk, to(0, walk.good & ~R), 0);
            faultsFor(walk, to(0, walk.good & ~R & ~X), 0);
            faultsFor(walk, to(TABLE, V), to(40, walk.good & ~R));
            faultsFor(walk, to(TABLE, V), to(40, walk.good & ~R & ~X));
            Box box = walk.box().put(at(ROOT, 0), to(0, walk.good & ~R)).rights(MXR | VS_MXR);
            for (int kind = 0; kind <= lastKind(walk.mode); kind++) {
                walk.faults(box, kind, 5 * PAGE);
            }
        }
    }

    private static void tableEntryWithUserAccessedOrDirty() {
        sentence("A FAULT: .. the first one is no leaf and has bit 4, 6 or 7 set");
        for (Walk walk : Walk.values()) {
            for (int bits : new int[] {U, A, D, U | A, U | D, A | D, U | A | D}) {
                faultsFor(walk, to(TABLE, V | bits), to(40, walk.good));
            }
            for (int bits : new int[] {32, 256, 512, 32 | 256 | 512}) {
                leadsFor(walk, to(TABLE, V | bits), to(40, walk.good), 40 * PAGE);
            }
        }
    }

    private static void secondEntryIsNoLeaf() {
        sentence("A FAULT: .. the second one is no leaf");
        for (Walk walk : Walk.values()) {
            faultsFor(walk, to(TABLE, V), to(TABLE, V));
            faultsFor(walk, to(TABLE, V), to(40, walk.good & ~(R | W | X)));
            // A third table that would lead on is not asked.
            Box box = walk.box().put(at(ROOT, 0), to(TABLE, V)).put(at(TABLE, 5), to(13, V));
            for (int index = 0; index < 5; index++) {
                box.put(at(13, index), to(40, walk.good));
            }
            walk.faults(box, LOAD, 5 * PAGE);
        }
    }

    private static void lowFrameBitsOfALeafInTheFirstTable() {
        sentence("A FAULT: .. a leaf in the first table has one of bits 10 .. 19 set");
        for (Walk walk : Walk.values()) {
            for (int bit = 10; bit < 20; bit++) {
                faultsFor(walk, 1 << bit | walk.good, to(40, walk.good));
            }
            faultsFor(walk, 0x3FF << 10 | walk.good, 0);
            leadsFor(walk, walk.good | 256 | 512, 0, 5 * PAGE);
            for (int bit = 20; bit < 32; bit++) {
                Box box = walk.box().put(at(ROOT, 0), 1 << bit | walk.good);
                for (int kind = 0; kind <= lastKind(walk.mode); kind++) {
                    walk.noByte(box, kind, 5 * PAGE);
                }
            }
            leadsFor(walk, to(TABLE, V), to(1, walk.good), PAGE);
            leadsFor(walk, to(TABLE, V), to(63, walk.good), 63 * PAGE);
        }
    }

    /** For a leaf with these flags the kinds that are allowed, as bits; in both tables. */
    private static void allowedKinds(Walk walk, int rights, int flags, int kinds) {
        for (int table = 0; table < 2; table++) {
            Box box = walk.box().rights(rights).put(at(ROOT, 0), table == 0 ? to(TABLE, V) : to(0, flags));
            box.put(at(TABLE, 5), to(5, flags));
            for (int kind = 0; kind <= lastKind(walk.mode); kind++) {
                if ((kinds >> kind & 1) != 0) {
                    walk.leads(box, kind, 5 * PAGE, 5 * PAGE);
                } else {
                    walk.faults(box, kind, 5 * PAGE);
                }
            }
        }
    }

    private static final int F = 1 << FETCH;
    private static final int L = 1 << LOAD;
    private static final int S = 1 << STORE;
    private static final int E = 1 << EXEC;
    private static final int ALL = F | L | S | E;

    private static void whatALeafAllows() {
        sentence("a fetch wants X; a load R (or X, if so said); a store W");
        for (Walk walk : Walk.values()) {
            boolean entry = walk == Walk.OF_ENTRY;
            int user = walk.good & U;
            allowedKinds(walk, 0, user | V | R | A | D, entry ? ALL : L);
            allowedKinds(walk, 0, user | V | X | A | D, entry ? 0 : F | E);
            allowedKinds(walk, 0, user | V | R | W | A | D, entry ? ALL : L | S);
            allowedKinds(walk, 0, user | V | R | X | A | D, entry ? ALL : F | L | E);
            allowedKinds(walk, 0, user | V | R | W | X | A | D, ALL);
        }
    }

    private static void accessedAndDirty() {
        sentence("bit 6 (A) must be set, for stores bit 7 (D)");
        for (Walk walk : Walk.values()) {
            allowedKinds(walk, 0, walk.good, ALL);
            allowedKinds(walk, 0, walk.good & ~A, 0);
            allowedKinds(walk, 0, walk.good & ~D, walk == Walk.OF_ENTRY ? ALL : F | L | E);
            allowedKinds(walk, 0, walk.good & ~A & ~D, 0);
            allowedKinds(walk, 15, walk.good & ~A, 0);
        }
    }

    private static void resultOfALeaf() {
        sentence("The result has bits 33 .. 12 from bits 31 .. 10 of the leaf .. bits 11 .. 0 from the address");
        for (Walk walk : Walk.values()) {
            Box box = walk.box().put(at(ROOT, 0), to(TABLE, V)).put(at(TABLE, 5), to(63, walk.good));
            walk.leads(box, LOAD, 5 * PAGE, 63 * PAGE);
            walk.leads(box, LOAD, 5 * PAGE + 4092, MEMORY - 4);
            box.put(at(TABLE, 5), to(0, walk.good));
            walk.leads(box, LOAD, 5 * PAGE + 2048, 2048);
            for (int bit = 6; bit < 22; bit++) {
                box.put(at(TABLE, 5), to(1 << bit, walk.good));
                walk.noByte(box, LOAD, 5 * PAGE);
            }
        }
        // Bits 33 .. 2 of a result are seen where the second stage refuses it.
        Box box = both();
        for (int frame : new int[] {128, 1023, 1024, 1 << 20, 1 << 21, 0x3FFFFF}) {
            box.put(at(GUEST_TABLE, 1), to(frame, FULL));
            box.refuses(MODE_VS, STORE, PAGE + 4095, frame * 4096L + 4095, false);
            box.refuses(MODE_VS, STORE, PAGE, frame * 4096L, false);
        }
    }

    private static void resultOfALeafInTheFirstTable() {
        sentence("of a leaf in the first table bits 21 .. 12 from the address");
        for (Walk walk : Walk.values()) {
            Box box = walk.box().put(at(ROOT, 0), to(0, walk.good)).put(at(ROOT, 1), to(0, walk.good));
            walk.leads(box, LOAD, 0, 0);
            walk.leads(box, LOAD, MEMORY - 4, MEMORY - 4);
            walk.leads(box, LOAD, LARGE + MEMORY - 4, MEMORY - 4);
            walk.noByte(box, LOAD, MEMORY);
            walk.noByte(box, LOAD, LARGE - 4);
            box.put(at(ROOT, 0), to(1 << 10, walk.good));
            walk.noByte(box, LOAD, 0);
        }
        Box box = both();
        for (int upper : new int[] {1, 1023, 1024, 2048, 4095}) {
            box.put(at(GUEST_ROOT, 7), to(upper << 10, FULL));
            box.refuses(MODE_VS, FETCH, 8 * LARGE - 1, (upper + 1L) * LARGE - 1, false);
            box.refuses(MODE_VS, FETCH, 7 * LARGE, (long) upper * LARGE, false);
        }
    }

    // ---- U and S

    private static void withoutAtp() {
        sentence("with bit 31 of ATP clear the address is that of memory; else a walk");
        Box box = new Box();
        for (int root : new int[] {0, ROOT, 1 << 21, LAST}) {
            box.roots(root, -1, -1);
            for (int mode = MODE_U; mode <= MODE_S; mode++) {
                box.leads(mode, STORE, MEMORY - 1, MEMORY - 1);
                box.traps(mode, STORE, MEMORY, 7);
            }
        }
        box.roots(ON, 0, 0);
        box.traps(MODE_U, STORE, 0, 15);
        box.traps(MODE_S, STORE, 0, 15);
        box.leads(MODE_VS, STORE, 0, 0);
    }

    private static void noSecondStage() {
        sentence("Each entry's place, and the result .. go through the SECOND STAGE (of VU and VS, not of U and S)");
        Box box = new Box().put(at(GUEST_ROOT, 0), to(GUEST_TABLE, V)).put(at(GUEST_TABLE, 3), to(40, FULL));
        box.put(at(GUEST_TABLE, 4), to(40, FULL_U));
        for (int hgatp : new int[] {ON | ROOT, ON | 64, -1}) {
            box.roots(ON | GUEST_ROOT, ON | GUEST_ROOT, hgatp);
            for (int kind = FETCH; kind <= STORE; kind++) {
                box.leads(MODE_S, kind, 3 * PAGE, 40 * PAGE);
                box.leads(MODE_U, kind, 4 * PAGE, 40 * PAGE);
                box.pages(MODE_S, kind, 0, 1024, 1);
                box.pages(MODE_VS, kind, 0, 1024, 0);
            }
            box.roots(0, 0, hgatp);
            box.leads(MODE_U, FETCH, MEMORY - 1, MEMORY - 1);
            box.leads(MODE_S, FETCH, MEMORY - 1, MEMORY - 1);
        }
        box.roots(0, ON | GUEST_ROOT, ON | ROOT).refuses(MODE_VS, FETCH, 3 * PAGE, at(GUEST_ROOT, 0), true);
        box.put(at(ROOT, 0), to(TABLE, V)).put(at(TABLE, GUEST_ROOT), to(GUEST_ROOT, FULL_U));
        box.refuses(MODE_VS, FETCH, 3 * PAGE, at(GUEST_TABLE, 3), true);
        box.put(at(TABLE, GUEST_TABLE), to(GUEST_TABLE, FULL_U));
        box.refuses(MODE_VS, FETCH, 3 * PAGE, 40 * PAGE, false);
        box.put(at(TABLE, 40), to(41, FULL_U)).leads(MODE_VS, FETCH, 3 * PAGE, 41 * PAGE);
    }

    private static void userBitOfFirstStage() {
        sentence("U wants U set; S clear");
        for (int rights : new int[] {0, MXR, 15 & ~SUM & ~VS_SUM}) {
            for (Walk walk : new Walk[] {Walk.OF_U, Walk.OF_VU}) {
                allowedKinds(walk, rights, FULL_U, ALL);
                allowedKinds(walk, rights, FULL, 0);
            }
            for (Walk walk : new Walk[] {Walk.OF_S, Walk.OF_VS}) {
                allowedKinds(walk, rights, FULL_U, 0);
                allowedKinds(walk, rights, FULL, ALL);
            }
        }
    }

    private static void sumOfS() {
        sentence("S clear, but for loads and stores with SUM either way");
        for (int rights = 0; rights < 16; rights++) {
            boolean sum = (rights & SUM) != 0;
            allowedKinds(Walk.OF_S, rights, FULL_U, sum ? L | S : 0);
            allowedKinds(Walk.OF_S, rights, FULL, ALL);
            allowedKinds(Walk.OF_U, rights, FULL_U, ALL);
            allowedKinds(Walk.OF_U, rights, FULL, 0);
        }
    }

    private static void mxrOfFirstStage() {
        sentence("with MXR loads take X, too");
        for (int rights = 0; rights < 16; rights++) {
            boolean mxr = (rights & MXR) != 0;
            allowedKinds(Walk.OF_S, rights, V | X | A | D, mxr ? F | L : F);
            allowedKinds(Walk.OF_U, rights, V | X | A | D | U, mxr ? F | L : F);
            allowedKinds(Walk.OF_S, rights, V | R | A | D, L);
            allowedKinds(Walk.OF_U, rights, V | R | A | D | U, L);
            allowedKinds(Walk.OF_U, rights, V | X | A | D, 0);
        }
    }

    private static void faultsOfFirstStage() {
        sentence("A fault: exception 12 (fetch), 13 (load), 15 (store)");
        Box box = new Box().roots(ON | ROOT, ON | ROOT, 0);
        for (int mode = 0; mode < 4; mode++) {
            box.traps(mode, FETCH, 0, 12);
            box.traps(mode, LOAD, 0, 13);
            box.traps(mode, STORE, 0, 15);
        }
        box.traps(MODE_VU, EXEC, 0, 13);
        box.traps(MODE_VS, EXEC, 0, 13);
    }

    // ---- VU and VS

    private static void withoutVsAtp() {
        sentence("first so by VS ATP .. (without the first stage the address)");
        Box box = new Box();
        for (int root : new int[] {0, ROOT, 1 << 21, LAST}) {
            box.roots(-1, root, 0);
            for (int mode = MODE_VU; mode <= MODE_VS; mode++) {
                box.leads(mode, FETCH, MEMORY - 1, MEMORY - 1);
                box.traps(mode, FETCH, MEMORY, 1);
            }
        }
        box.roots(0, ON, 0);
        box.traps(MODE_VU, FETCH, 0, 12);
        box.traps(MODE_VS, FETCH, 0, 12);
        box.leads(MODE_S, FETCH, 0, 0);
        box.roots(0, LAST, ON | ROOT);
        box.refuses(MODE_VS, FETCH, -1, 0xFFFFFFFFL, false);
        box.refuses(MODE_VU, STORE, LEAST, 0x80000000L, false);
        box.put(at(ROOT, 1023), to(0, FULL_U));
        box.leads(MODE_VS, FETCH, -LARGE + MEMORY - 1, MEMORY - 1);
        box.traps(MODE_VS, FETCH, -1, 1);
    }

    private static void vsSum() {
        sentence("first so by .. VU, VS, and VS SUM");
        for (int rights = 0; rights < 16; rights++) {
            boolean sum = (rights & VS_SUM) != 0;
            allowedKinds(Walk.OF_VS, rights, FULL_U, sum ? L | S | E : 0);
            allowedKinds(Walk.OF_VS, rights, FULL, ALL);
            allowedKinds(Walk.OF_VU, rights, FULL_U, ALL);
            allowedKinds(Walk.OF_VU, rights, FULL, 0);
        }
    }

    private static void vsMxr() {
        sentence("loads take X with VS MXR or MXR");
        for (int rights = 0; rights < 16; rights++) {
            boolean mxr = (rights & (MXR | VS_MXR)) != 0;
            allowedKinds(Walk.OF_VS, rights, V | X | A | D, mxr ? F | L | E : F | E);
            allowedKinds(Walk.OF_VU, rights, V | X | A | D | U, mxr ? F | L | E : F | E);
        }
    }

    private static void loadsForExecution() {
        sentence("(loads for execution want X, and nothing else)");
        for (int rights = 0; rights < 16; rights++) {
            allowedKinds(Walk.OF_VS, rights, V | R | W | A | D, L | S);
            allowedKinds(Walk.OF_VU, rights, V | R | W | A | D | U, L | S);
            Box box = Walk.OF_VS.box().rights(rights).put(at(ROOT, 0), to(0, V | X | A));
            box.leads(MODE_VS, EXEC, 5, 5);
            box.put(at(ROOT, 0), to(0, V | R | A));
            box.traps(MODE_VS, EXEC, 5, 13);
        }
    }

    private static void withoutHgatp() {
        sentence("with bit 31 of HGATP clear they are those of memory");
        for (int root : new int[] {0, ROOT, 0x3FFFFF, LAST}) {
            Box box = new Box().put(at(GUEST_ROOT, 0), to(GUEST_TABLE, V)).put(at(GUEST_TABLE, 0), to(63, FULL));
            box.put(at(GUEST_TABLE, 1), to(64, FULL)).put(at(GUEST_TABLE, 2), to(0x3FFFFF, FULL));
            box.put(at(GUEST_ROOT, 1), to(64, V));
            box.roots(0, ON | GUEST_ROOT, root);
            box.leads(MODE_VS, STORE, 4095, MEMORY - 1);
            box.traps(MODE_VS, STORE, PAGE, 7);
            box.traps(MODE_VS, STORE, 2 * PAGE, 7);
            box.traps(MODE_VS, STORE, LARGE, 7);
            box.roots(0, ON | 63, root);
            box.traps(MODE_VS, STORE, -1, 15);
            box.roots(0, ON | 64, root);
            box.traps(MODE_VS, STORE, 0, 7);
        }
    }

    private static void rootOfTheSecondStage() {
        sentence("else a walk by its bits 21 .. 2 and two 0 times 4,096");
        for (int low = 0; low < 4; low++) {
            Box box = new Box().put(at(60, 0), to(0, FULL_U)).put(at(60, 4095), to(0, FULL_U));
            box.put(at(GUEST_ROOT, 0), to(0xFFF << 10, FULL));
            box.roots(0, 0, ON | 60 | low).leads(MODE_VU, STORE, 5, 5);
            box.roots(0, ON | GUEST_ROOT, ON | 60 | low).leads(MODE_VS, STORE, 5, 5);
            box.roots(0, 0, ON | 64 | low).traps(MODE_VU, STORE, 5, 7);
            box.roots(0, 0, ON | 0x3FFFFC | low).traps(MODE_VU, FETCH, 5, 1);
        }
    }

    private static void secondStageWantsUser() {
        sentence("U must be set");
        for (int rights = 0; rights < 16; rights++) {
            allowedKinds(Walk.OF_RESULT, rights, FULL_U, ALL);
            allowedKinds(Walk.OF_RESULT, rights, FULL, 0);
            allowedKinds(Walk.OF_ENTRY, rights, FULL_U, ALL);
            allowedKinds(Walk.OF_ENTRY, rights, FULL, 0);
        }
        Box box = both().put(at(GUEST_TABLE, 0), to(40, FULL)).put(at(TABLE, 40), to(40, FULL));
        box.refuses(MODE_VS, LOAD, 0, 40 * PAGE, false);
        box.put(at(TABLE, 40), to(40, FULL_U)).leads(MODE_VS, LOAD, 0, 40 * PAGE);
    }

    private static void anEntryIsALoad() {
        sentence("an entry of the first stage is a load (X does not do)");
        for (int rights = 0; rights < 16; rights++) {
            allowedKinds(Walk.OF_ENTRY, rights, V | R | A | U, ALL);
            allowedKinds(Walk.OF_ENTRY, rights, V | X | A | D | U, 0);
        }
        // The entry of the lower table goes the same way as that of the root.
        Box box = both().rights(15).put(at(GUEST_TABLE, 3), to(40, FULL));
        box.put(at(TABLE, GUEST_TABLE), to(GUEST_TABLE, V | R | A | U));
        for (int kind = 0; kind < 4; kind++) {
            box.leads(MODE_VS, kind, 3 * PAGE, 40 * PAGE);
        }
        box.put(at(TABLE, GUEST_TABLE), to(GUEST_TABLE, V | X | A | D | U));
        for (int kind = 0; kind < 4; kind++) {
            box.refuses(MODE_VS, kind, 3 * PAGE, at(GUEST_TABLE, 3), true);
        }
    }

    private static void mxrOfTheSecondStage() {
        sentence("the result's loads take X with MXR (for execution want X)");
        for (int rights = 0; rights < 16; rights++) {
            boolean mxr = (rights & MXR) != 0;
            allowedKinds(Walk.OF_RESULT, rights, V | X | A | D | U, mxr ? F | L | E : F | E);
            allowedKinds(Walk.OF_RESULT, rights, V | R | W | A | D | U, L | S);
        }
    }

    private static void faultsOfTheSecondStage() {
        sentence("A fault: exception 20 (fetch), 21 (load), 23 (store), by what was asked for, at an entry's place, "
            + "too");
        Box box = new Box().roots(0, 0, ON | ROOT);
        for (int mode = MODE_VU; mode <= MODE_VS; mode++) {
            int[] faults = {20, 21, 23, 21};
            for (int kind = 0; kind < 4; kind++) {
                box.answers(mode, kind, 8, faults[kind]);
                box.latest(-1, 2, false);
            }
        }
        box.roots(0, ON | GUEST_ROOT, ON | ROOT);
        for (int kind = 0; kind < 4; kind++) {
            box.answers(MODE_VS, kind, LARGE, new int[] {20, 21, 23, 21}[kind]);
            box.latest(-1, GUEST_ROOT * 1024 + 1, true);
        }
        Box lower = both().put(at(TABLE, GUEST_TABLE), 0);
        for (int kind = 0; kind < 4; kind++) {
            lower.answers(MODE_VU, kind, 9 * PAGE, new int[] {20, 21, 23, 21}[kind]);
            lower.latest(-1, GUEST_TABLE * 1024 + 9, true);
        }
    }

    // ---- No byte of memory; the first on the way

    private static void placeOfAnEntryThatIsNoByte() {
        sentence("A place of an entry .. that is no byte of memory is exception 1 (fetch), 5 (load), 7 (store)");
        for (int mode = 0; mode < 4; mode++) {
            Box box = new Box().put(at(ROOT, 0), to(64, V)).put(at(ROOT, 1), to(0x3FFFFF, V));
            for (int kind = 0; kind <= lastKind(mode); kind++) {
                box.roots(ON | 64, ON | 64, 0).traps(mode, kind, 0, NO_BYTE[kind]);
                box.roots(ON | 0x3FFFFF, ON | 0x3FFFFF, 0).traps(mode, kind, -1, NO_BYTE[kind]);
                box.roots(ON | ROOT, ON | ROOT, 0).traps(mode, kind, 0, NO_BYTE[kind]);
                box.traps(mode, kind, LARGE + 1023 * PAGE, NO_BYTE[kind]);
            }
        }
        // Entries of the second stage, at a result and at an entry's place; and an entry's place led nowhere.
        for (int kind = 0; kind < 4; kind++) {
            Box box = both();
            box.roots(0, 0, ON | 64).traps(MODE_VU, kind, 0, NO_BYTE[kind]);
            box.roots(0, ON | GUEST_ROOT, ON | 64).traps(MODE_VU, kind, 0, NO_BYTE[kind]);
            box.put(at(ROOT, 1), to(64, V));
            box.roots(0, 0, ON | ROOT).traps(MODE_VU, kind, LARGE, NO_BYTE[kind]);
            box.roots(0, ON | 1024, ON | ROOT).traps(MODE_VU, kind, 0, NO_BYTE[kind]);
            box.roots(0, ON | 64, ON | ROOT).traps(MODE_VU, kind, 0, NO_BYTE[kind]);
            box.roots(0, ON | GUEST_ROOT, ON | ROOT).put(at(GUEST_ROOT, 0), to(120, V));
            box.traps(MODE_VU, kind, 1023 * PAGE, NO_BYTE[kind]);
        }
        // The last words of memory are places of entries.
        Box last = new Box().put(at(63, 1023), to(63, V)).roots(ON | 63, ON | 63, 0);
        last.traps(MODE_S, LOAD, -1, 13);
        last.put(at(63, 1022), to(63, FULL)).leads(MODE_S, LOAD, -PAGE - 1, MEMORY - 1);
    }

    private static void resultThatIsNoByte() {
        sentence("or a result, that is no byte of memory is exception 1 (fetch), 5 (load), 7 (store)");
        for (Walk walk : new Walk[] {Walk.OF_U, Walk.OF_S, Walk.OF_VU, Walk.OF_VS, Walk.OF_RESULT}) {
            Box box = walk.box().put(at(ROOT, 0), to(TABLE, V)).put(at(TABLE, 1), to(63, walk.good));
            box.put(at(TABLE, 2), to(64, walk.good)).put(at(TABLE, 3), to(0x3FFFFF, walk.good));
            box.put(at(TABLE, 4), to(1 << 20, walk.good)).put(at(ROOT, 1), to(0, walk.good));
            for (int kind = 0; kind <= lastKind(walk.mode); kind++) {
                walk.leads(box, kind, PAGE + 4095, MEMORY - 1);
                walk.noByte(box, kind, 2 * PAGE);
                walk.noByte(box, kind, 3 * PAGE + 4095);
                walk.noByte(box, kind, 4 * PAGE);
                walk.leads(box, kind, LARGE + MEMORY - 1, MEMORY - 1);
                walk.noByte(box, kind, LARGE + MEMORY);
            }
        }
    }

    /** Faults are laid along one way, the last one first: each new one is told before those behind it. */
    private static void firstOnTheWay() {
        sentence("Of exceptions the one that comes first on the way is told");
        for (int kind = 0; kind < 4; kind++) {
            Box box = both().put(at(GUEST_TABLE, 3), to(100, FULL));
            box.traps(MODE_VS, kind, 3 * PAGE, NO_BYTE[kind]);
            box.put(at(TABLE, 100), to(100, FULL));
            box.refuses(MODE_VS, kind, 3 * PAGE, 100 * PAGE, false);
            box.put(at(GUEST_TABLE, 3), to(100, FULL_U & ~V));
            box.traps(MODE_VS, kind, 3 * PAGE, FIRST_FAULT[kind]);
            box.put(at(TABLE, GUEST_TABLE), to(100, FULL_U));
            box.traps(MODE_VS, kind, 3 * PAGE, NO_BYTE[kind]);
            box.put(at(TABLE, GUEST_TABLE), to(100, FULL));
            box.refuses(MODE_VS, kind, 3 * PAGE, at(GUEST_TABLE, 3), true);
            box.put(at(GUEST_ROOT, 0), to(GUEST_TABLE, V | U));
            box.traps(MODE_VS, kind, 3 * PAGE, FIRST_FAULT[kind]);
            box.put(at(TABLE, GUEST_ROOT), to(100, FULL_U));
            box.traps(MODE_VS, kind, 3 * PAGE, NO_BYTE[kind]);
            box.put(at(TABLE, GUEST_ROOT), to(100, FULL));
            box.refuses(MODE_VS, kind, 3 * PAGE, at(GUEST_ROOT, 0), true);
            box.put(at(ROOT, 0), to(64, V));
            box.traps(MODE_VS, kind, 3 * PAGE, NO_BYTE[kind]);
            box.put(at(ROOT, 0), to(64, V | D));
            box.refuses(MODE_VS, kind, 3 * PAGE, at(GUEST_ROOT, 0), true);
            box.roots(0, ON | GUEST_ROOT, ON | 64);
            box.traps(MODE_VS, kind, 3 * PAGE, NO_BYTE[kind]);
        }
    }

    // ---- Promises 1 and 2

    private static void newObject() {
        sentence("All words, roots and rights are 0");
        Box box = new Box();
        box.latest(-1, 0, false);
        due("rights(15)", box.call().rights(15), 0);
        for (int mode = 0; mode < 4; mode++) {
            Box other = new Box();
            other.leads(mode, STORE, MEMORY - 1, MEMORY - 1);
            other.pages(mode, LOAD, 0, 1024, 64);
        }
        Box used = new Box().put(0, 7).rights(15).roots(-1, -1, -1);
        Box next = new Box();
        next.word(0, 0);
        next.leads(MODE_S, LOAD, 3, 3);
        due("rights(0)", next.call().rights(0), 0);
        used.word(0, 7);
    }

    private static void begin() {
        sentence("All as at first");
        for (int from = 0; from < MEMORY; from += 800) {
            StageWalker x = new StageWalker();
            int start = Math.min(from, MEMORY - 800);
            for (int a = start; a < start + 800; a += 20) {
                x.poke(a, -1, -1, -1, -1, -1);
            }
            x.begin();
            for (int a = start; a < start + 800; a += 4) {
                due("word(" + a + ")", x.word(a), 0);
            }
        }
        for (int mode = 0; mode < 4; mode++) {
            Box box = new Box().roots(-1, -1, -1).rights(15);
            box.call().begin();
            box.leads(mode, LOAD, 5, 5);
            due("rights(0)", box.call().rights(0), 0);
        }
        // What is at hand is gone, too: a place, and a refused entry.
        Box box = new Box();
        box.call().begin();
        box.latest(-1, 0, false);
        box.leads(MODE_U, LOAD, 9, 9);
        box.call().begin();
        box.latest(-1, 0, false);
        box.roots(0, ON | GUEST_ROOT, ON | ROOT).refuses(MODE_VS, LOAD, LARGE, at(GUEST_ROOT, 1), true);
        box.call().begin();
        box.latest(-1, 0, false);
        box.call().begin();
        box.latest(-1, 0, false);
    }

    // ---- Promise 3

    private static void fiveWords() {
        sentence("Five words from an address on: the address behind them");
        for (int from : new int[] {0, 4, 8, PAGE - 8, MEMORY - 24, MEMORY - 20}) {
            Box box = new Box();
            due("poke(" + from + ", ..)", box.call().poke(from, 1, -1, LAST, LEAST, 5), from + 20);
            box.word(from - 4, 0);
            box.word(from, 1);
            box.word(from + 4, -1);
            box.word(from + 8, LAST);
            box.word(from + 12, LEAST);
            box.word(from + 16, 5);
            box.word(from + 20, 0);
            due("poke again", box.call().poke(from, 0, 0, 0, 0, 9), from + 20);
            box.word(from, 0);
            box.word(from + 16, 9);
        }
    }

    /** Refused: BAD, and no word nor what is at hand has changed. */
    private static void refusedPokes(int... addresses) {
        Box box = new Box();
        int[] edges = {0, 20, MEMORY - 40, MEMORY - 20};
        for (int edge : edges) {
            box.call().poke(edge, 1, 2, 3, 4, 5);
        }
        box.leads(MODE_S, LOAD, 77, 77);
        for (int address : addresses) {
            due("poke(" + address + ", ..)", box.call().poke(address, 9, 9, 9, 9, 9), -1);
        }
        box.latest(77, 0, false);
        for (int edge : edges) {
            for (int i = 0; i < 5; i++) {
                box.word(edge + 4 * i, i + 1);
            }
        }
        box.word(40, 0);
        box.word(MEMORY - 44, 0);
    }

    private static void pokeBelowZero() {
        sentence("BAD: it is below 0");
        refusedPokes(-4, -8, -16, -20, -24, -MEMORY, LEAST, LEAST + 4, -1, -3);
    }

    private static void pokeOffTheWords() {
        sentence("BAD: it is .. no multiple of 4");
        refusedPokes(1, 2, 3, 5, 6, 7, 21, MEMORY - 21, MEMORY - 22, MEMORY - 23, MEMORY - 19);
    }

    private static void pokeBeyondMemory() {
        sentence("BAD: .. one would be no word of memory");
        refusedPokes(MEMORY - 16, MEMORY - 12, MEMORY - 8, MEMORY - 4, MEMORY, MEMORY + 4, 1 << 30, LAST - 23,
            LAST - 19, LAST - 3, LAST);
    }

    // ---- Promise 4

    private static void wordWhereThereIsOne() {
        sentence("The word at an address");
        Box box = new Box();
        box.call().poke(0, -1, 0, 0, 0, 0);
        box.call().poke(MEMORY - 20, 0, 0, 0, 0, LEAST);
        box.word(0, -1);
        box.word(4, 0);
        box.word(MEMORY - 4, LEAST);
        box.word(MEMORY - 8, 0);
    }

    /** A memory that is full at its ends, so that any word told would not be 0. */
    private static void noWords(int... addresses) {
        Box box = new Box();
        box.call().poke(0, -1, -1, -1, -1, -1);
        box.call().poke(MEMORY - 20, -1, -1, -1, -1, -1);
        box.leads(MODE_S, LOAD, 77, 77);
        for (int address : addresses) {
            box.word(address, 0);
        }
        box.latest(77, 0, false);
    }

    private static void wordWhereThereIsNone() {
        sentence("0 where there is none");
        noWords(-4, -8, -MEMORY, -MEMORY + 4, LEAST, LEAST + 4, MEMORY, MEMORY + 4, 2 * MEMORY, 2 * MEMORY - 4, 1 << 30,
            LAST - 3, LAST);
    }

    private static void wordOffTheWords() {
        sentence("(or it is no multiple of 4)");
        noWords(1, 2, 3, 5, 6, 7, 17, 18, 19, MEMORY - 1, MEMORY - 2, MEMORY - 3, MEMORY - 5, MEMORY - 6,
            MEMORY - 7, -1, -2, -3);
    }

    // ---- Promises 5 and 6

    private static void roots() {
        sentence("Other roots");
        Box box = new Box().put(at(ROOT, 0), to(0, FULL)).put(at(9, 0), to(0, FULL_U));
        box.leads(MODE_S, LOAD, PAGE, PAGE);
        box.roots(ON | ROOT, ON | 9, 0);
        box.latest(PAGE, 0, false);
        box.leads(MODE_S, LOAD, 1, 1);
        box.traps(MODE_VS, LOAD, 1, 13);
        box.roots(ON | 9, ON | ROOT, 0);
        box.traps(MODE_S, LOAD, 1, 13);
        box.leads(MODE_VS, LOAD, 1, 1);
        box.roots(0, 0, ON | ROOT);
        box.leads(MODE_S, LOAD, 1, 1);
        box.refuses(MODE_VS, LOAD, 1, 0, false);
        box.put(at(ROOT, 0), to(0, FULL_U)).leads(MODE_VS, LOAD, 1, 1);
        box.roots(0, 0, 0);
        box.latest(1, 0, false);
        for (int mode = 0; mode < 4; mode++) {
            box.leads(mode, LOAD, MEMORY - 1, MEMORY - 1);
        }
    }

    private static void rights() {
        sentence("Other rights (the lowest four bits): those before");
        Box box = new Box();
        box.leads(MODE_S, LOAD, 77, 77);
        int before = 0;
        for (int bits : new int[] {15, 0, 1, 2, 4, 8, 16, 31, -1, -16, LEAST, LAST, LEAST | 5, 0x7FFFFFF0, 10, 10, 0}) {
            due("rights(" + bits + ")", box.call().rights(bits), before);
            before = bits & 15;
        }
        box.latest(77, 0, false);
        // Bits above the lowest four are no rights.
        box.put(at(ROOT, 0), to(0, FULL_U)).roots(ON | ROOT, 0, 0).rights(-16);
        box.traps(MODE_S, LOAD, 0, 13);
        box.rights(-15).leads(MODE_S, LOAD, 0, 0);
    }

    // ---- Promise 7

    /** Three states at hand, each of which a refused call leaves as it was. */
    private static void refusedTranslations(int[][] modesAndKinds) {
        Box place = new Box();
        place.leads(MODE_S, LOAD, 77, 77);
        Box fault = new Box().roots(ON, 0, 0);
        fault.traps(MODE_S, LOAD, 77, 13);
        Box entry = new Box().roots(0, ON | GUEST_ROOT, ON | ROOT);
        entry.refuses(MODE_VS, LOAD, LARGE, at(GUEST_ROOT, 1), true);
        for (int[] pair : modesAndKinds) {
            for (int address : new int[] {0, MEMORY, -1}) {
                place.answers(pair[0], pair[1], address, -1);
                fault.answers(pair[0], pair[1], address, -1);
                entry.answers(pair[0], pair[1], address, -1);
            }
            place.latest(77, 0, false);
            fault.latest(-1, 0, false);
            entry.latest(-1, GUEST_ROOT * 1024 + 1, true);
        }
    }

    private static void noSuchMode() {
        sentence("BAD: there is no such mode ..; nothing changes then");
        refusedTranslations(new int[][] {{-1, 0}, {-1, 3}, {4, 0}, {4, 1}, {4, 2}, {4, 3}, {-2, 1}, {LAST, 0},
            {LEAST, 0}});
    }

    private static void noSuchKind() {
        sentence("BAD: there is no such .. kind there; nothing changes then");
        refusedTranslations(new int[][] {{0, 3}, {1, 3}, {0, 4}, {1, 4}, {2, 4}, {3, 4}, {0, -1}, {1, -1}, {2, -1},
            {3, -1}, {2, LAST}, {3, LEAST}, {0, LEAST}, {-1, -1}, {4, 4}});
    }

    private static void whereAnAddressLeads() {
        sentence("Where an address leads: 0, and its place is at hand; or the exception");
        Box box = both().put(at(GUEST_TABLE, 0), to(63, FULL)).put(at(GUEST_TABLE, 1), to(0, FULL));
        box.leads(MODE_VS, STORE, 4095, MEMORY - 1);
        box.leads(MODE_VS, STORE, PAGE, 0);
        box.traps(MODE_VS, STORE, 2 * PAGE, 15);
        box.leads(MODE_VS, STORE, PAGE, 0);
    }

    // ---- Promises 8 to 10

    private static void placeAfterAnException() {
        sentence("BAD if that was an exception");
        Box box = both().put(at(GUEST_TABLE, 0), to(20, FULL)).put(at(GUEST_TABLE, 1), to(64, FULL));
        box.put(at(GUEST_TABLE, 2), to(200, FULL)).put(at(GUEST_ROOT, 1), to(200, V));
        int[][] exceptions = {{PAGE, 5}, {2 * PAGE, 21}, {3 * PAGE, 13}, {LARGE, 21}, {-1, 13}};
        for (int[] e : exceptions) {
            box.answers(MODE_VS, LOAD, 5, 0);
            due("place()", box.call().place(), 20 * PAGE + 5);
            box.answers(MODE_VS, LOAD, e[0], e[1]);
            due("place()", box.call().place(), -1);
            due("place()", box.call().place(), -1);
        }
    }

    private static void placeOfNone() {
        sentence("or there was none");
        Box box = new Box();
        due("place()", box.call().place(), -1);
        box.put(0, 5).roots(1, 2, 3).rights(3);
        box.word(0, 5);
        box.pages(MODE_S, LOAD, 0, 4, 4);
        box.answers(MODE_S, EXEC, 0, -1);
        due("place()", box.call().place(), -1);
    }

    private static void placeOfTheLatest() {
        sentence("The place of the latest translation");
        Box box = new Box();
        box.answers(MODE_S, LOAD, 5, 0);
        box.answers(MODE_U, STORE, MEMORY - 1, 0);
        due("place()", box.call().place(), MEMORY - 1);
        box.roots(-1, -1, -1).rights(15).put(MEMORY - 4, 3);
        due("place()", box.call().place(), MEMORY - 1);
        due("place()", box.call().place(), MEMORY - 1);
    }

    private static void secondOfTheSecondStage() {
        sentence("if it was exception 20, 21 or 23: bits 33 .. 2 of the address of the second stage");
        Box box = both();
        int[] frames = {128, 0x3FFFFF, 1 << 21, 0x1FFFFF, 1023};
        for (int frame : frames) {
            box.put(at(GUEST_TABLE, 0), to(frame, FULL));
            for (int low : new int[] {0, 3, 4, 4092, 4095}) {
                box.answers(MODE_VS, low % 4 == 0 ? LOAD : STORE, low, low % 4 == 0 ? 21 : 23);
                due("second()", box.call().second(), frame << 10 | low >> 2);
            }
        }
        box.roots(0, ON | 0x3FFFFF, ON | ROOT);
        box.answers(MODE_VS, FETCH, -1, 20);
        due("second()", box.call().second(), -1);
        due("second()", box.call().second(), -1);
        box.answers(MODE_VS, FETCH, 0, 20);
        due("second()", box.call().second(), 0x3FFFFF << 10);
    }

    private static void secondOfTheLatest() {
        sentence("Of the latest translation, if it was exception 20, 21 or 23");
        Box box = new Box().roots(0, ON | GUEST_ROOT, ON | ROOT);
        int second = GUEST_ROOT * 1024 + 1;
        box.refuses(MODE_VS, LOAD, LARGE, at(GUEST_ROOT, 1), true);
        box.roots(0, 0, 0).latest(-1, second, true);
        box.rights(15).latest(-1, second, true);
        box.put(at(GUEST_ROOT, 1), to(0, FULL)).latest(-1, second, true);
        due("poke(-4, ..)", box.call().poke(-4, 1, 2, 3, 4, 5), -1);
        box.word(at(GUEST_ROOT, 1), to(0, FULL));
        box.word(-4, 0);
        box.pages(MODE_VS, LOAD, 0, 1, 1);
        box.pages(MODE_VS, LOAD, 0, 0, -1);
        box.answers(MODE_S, EXEC, 0, -1);
        box.latest(-1, second, true);
        box.leads(MODE_VS, LOAD, 0, 0);
    }

    private static void secondOfAllElse() {
        sentence("else 0");
        Box box = both();
        due("second()", box.call().second(), 0);
        box.put(at(GUEST_TABLE, 1), to(64, FULL)).put(at(GUEST_TABLE, 2), to(20, FULL));
        box.put(at(GUEST_ROOT, 1), to(64, V)).put(at(GUEST_ROOT, 2), to(200, V));
        int[][] others = {{PAGE, NO_BYTE[STORE]}, {2 * PAGE, 0}, {3 * PAGE, 15}, {LARGE, 7}, {-1, 15}};
        for (int[] other : others) {
            box.refuses(MODE_VS, STORE, 2 * LARGE + PAGE, at(200, 1), true);
            box.answers(MODE_VS, STORE, other[0], other[1]);
            due("second()", box.call().second(), 0);
            due("entry()", box.call().entry() ? 1 : 0, 0);
        }
        box.refuses(MODE_VS, STORE, 2 * LARGE + PAGE, at(200, 1), true);
        box.traps(MODE_S, STORE, MEMORY, 7);
        // A second address of 0 is told as 0.
        Box zero = new Box().roots(0, 0, ON | ROOT);
        zero.refuses(MODE_VU, LOAD, 3, 0, false);
        zero.roots(0, ON, ON | ROOT).refuses(MODE_VU, LOAD, 3, 0, true);
    }

    private static void entry() {
        sentence("Whether that was an entry's place");
        Box box = both();
        due("entry()", box.call().entry() ? 1 : 0, 0);
        // The same address of the second stage, as an entry's place of either table and as a result.
        box.put(at(TABLE, 40), 0).put(at(GUEST_ROOT, 1), to(40, V)).put(at(GUEST_TABLE, 1), to(40, FULL));
        box.refuses(MODE_VS, LOAD, LARGE + 3 * PAGE, at(40, 3), true);
        box.refuses(MODE_VS, LOAD, PAGE + 12, at(40, 3), false);
        box.roots(0, ON | 40, ON | ROOT).refuses(MODE_VS, LOAD, 3 * LARGE, at(40, 3), true);
        box.roots(0, 0, ON | ROOT).refuses(MODE_VS, LOAD, at(40, 3), at(40, 3), false);
        box.roots(0, ON | 64, ON | ROOT).traps(MODE_VS, LOAD, 0, 5);
    }

    // ---- Promise 11

    private static void pagesFromAnAddressOn() {
        sentence("From an address on, how many of the next pages .. lead to some place for this mode and kind");
        Box box = new Box();
        for (int from : new int[] {0, 1, 4095}) {
            box.pages(MODE_S, LOAD, from, 63, 63);
            box.pages(MODE_S, LOAD, from, 64, 64);
            box.pages(MODE_S, LOAD, from, 65, 64);
        }
        box.pages(MODE_S, LOAD, PAGE, 64, 63);
        box.pages(MODE_S, LOAD, MEMORY - 1, 1, 1);
        box.pages(MODE_S, LOAD, MEMORY - 1, 2, 1);
        box.pages(MODE_S, LOAD, MEMORY, 1024, 0);
        // Those that lead count behind one that does not, too; each kind and mode has its own.
        Box walk = Walk.OF_S.box().put(at(ROOT, 0), to(TABLE, V)).put(at(ROOT, 1), to(0, FULL));
        walk.put(at(TABLE, 1), to(5, FULL)).put(at(TABLE, 3), to(5, FULL & ~X)).put(at(TABLE, 4), to(5, FULL & ~D));
        walk.put(at(TABLE, 5), to(5, FULL_U)).put(at(TABLE, 1023), to(64, FULL));
        walk.pages(MODE_S, LOAD, 0, 6, 3);
        walk.pages(MODE_S, FETCH, 0, 6, 2);
        walk.pages(MODE_S, STORE, 0, 6, 2);
        walk.pages(MODE_U, STORE, 0, 6, 1);
        walk.pages(MODE_S, LOAD, 0, 1, 0);
        walk.pages(MODE_S, LOAD, 0, 2, 1);
        walk.pages(MODE_S, LOAD, 1023 * PAGE, 1, 0);
        walk.pages(MODE_S, LOAD, 1023 * PAGE, 2, 1);
        walk.pages(MODE_S, LOAD, PAGE, 1024, 4);
        walk.pages(MODE_VS, EXEC, 0, 1024, 64);
    }

    private static void pagesToTheLastAddress() {
        sentence("the last address is 2^32 - 1");
        // All of the last 4 MiB lead, and so does page 0: nothing goes round to it.
        Box box = Walk.OF_S.box().put(at(ROOT, 1023), to(TABLE, V)).put(at(ROOT, 0), to(0, FULL));
        for (int index = 1010; index < 1024; index++) {
            box.put(at(TABLE, index), to(20, FULL));
        }
        for (int n : new int[] {1, 2, 64, 1023, 1024}) {
            box.pages(MODE_S, LOAD, -1, n, 1);
            box.pages(MODE_S, LOAD, -PAGE, n, 1);
            box.pages(MODE_S, LOAD, -PAGE - 1, n, Math.min(n, 2));
            box.pages(MODE_S, LOAD, -3 * PAGE, n, Math.min(n, 3));
            box.pages(MODE_S, LOAD, -LARGE, n, Math.max(0, n - 1010));
        }
        // Nor do they go on behind 2^32: the words behind the root's frame, and the second stage's entries
        // from 1,024 on (addresses of 34 bits), would lead there.
        box.put(at(ROOT, 1024), to(0, FULL)).pages(MODE_S, LOAD, -PAGE, 2, 1);
        box.pages(MODE_S, LOAD, -1, 1024, 1);
        Box wide = Walk.OF_RESULT.box().put(at(ROOT, 1023), to(TABLE, V)).put(at(ROOT, 1024), to(0, FULL_U));
        wide.put(at(TABLE, 1023), to(20, FULL_U));
        wide.pages(MODE_VS, LOAD, -PAGE, 1024, 1);
        wide.pages(MODE_VU, LOAD, -1, 2, 1);
        // Without tables the last pages are no memory, and page 0 is not behind them.
        Box none = new Box();
        none.pages(MODE_U, LOAD, -1, 1024, 0);
        none.pages(MODE_VS, LOAD, -PAGE, 2, 0);
        none.pages(MODE_VS, LOAD, -1023 * PAGE, 1024, 0);
        // The sign of an int is no end: pages go on from 2^31 - 1 to 2^31.
        Box middle = Walk.OF_S.box().put(at(ROOT, 511), to(TABLE, V)).put(at(TABLE, 1023), to(20, FULL));
        middle.put(at(ROOT, 512), to(0, FULL));
        middle.pages(MODE_S, LOAD, LAST, 1, 1);
        middle.pages(MODE_S, LOAD, LAST, 3, 3);
        middle.pages(MODE_S, LOAD, LEAST, 1024, 64);
    }

    private static void pagesLeaveWhatIsAtHand() {
        sentence("what is at hand does not change");
        Box box = both().put(at(GUEST_TABLE, 0), to(20, FULL)).put(at(GUEST_TABLE, 1), to(200, FULL));
        box.put(at(GUEST_ROOT, 1), to(200, V));
        int[][] asked = {{0, 1}, {PAGE, 0}, {LARGE, 0}, {2 * LARGE, 0}};
        for (int[] pair : asked) {
            box.leads(MODE_VS, LOAD, 5, 20 * PAGE + 5);
            box.pages(MODE_VS, LOAD, pair[0], 1, pair[1]);
            box.latest(20 * PAGE + 5, 0, false);
            box.refuses(MODE_VS, STORE, PAGE + 8, 200 * PAGE + 8, false);
            box.pages(MODE_VS, LOAD, pair[0], 1, pair[1]);
            box.latest(-1, 200 * 1024 + 2, false);
            box.refuses(MODE_VS, FETCH, LARGE + PAGE, at(200, 1), true);
            box.pages(MODE_VS, LOAD, pair[0], 1, pair[1]);
            box.latest(-1, 200 * 1024 + 1, true);
            box.traps(MODE_VS, FETCH, 2 * LARGE, 12);
            box.pages(MODE_VS, LOAD, pair[0], 1, pair[1]);
            box.latest(-1, 0, false);
        }
        Box none = new Box();
        none.pages(MODE_VS, LOAD, 0, 64, 64);
        none.latest(-1, 0, false);
        due("rights(0)", none.rights(9).call().rights(0), 9);
    }

    private static void numbersOfPages() {
        sentence("BAD: no such n (at most n of 1 .. 1,024)");
        Box box = new Box();
        box.leads(MODE_S, LOAD, 77, 77);
        for (int n : new int[] {0, -1, 1025, 1026, LAST, LEAST, -1024}) {
            for (int mode = 0; mode < 4; mode++) {
                box.pages(mode, LOAD, 0, n, -1);
                box.pages(mode, LOAD, -1, n, -1);
            }
        }
        box.pages(MODE_S, LOAD, 0, 1, 1);
        box.pages(MODE_S, LOAD, 0, 1024, 64);
        Box walk = Walk.OF_S.box();
        for (int index = 0; index < 32; index++) {
            walk.put(at(ROOT, index), to(0, FULL));
        }
        walk.pages(MODE_S, LOAD, 63 * PAGE, 1024, 64);
        walk.pages(MODE_S, LOAD, 64 * PAGE, 1023, 63);
        walk.pages(MODE_S, LOAD, LARGE, 1024, 64);
        walk.pages(MODE_S, LOAD, 1, 1024, 64);
        walk.pages(MODE_S, LOAD, LARGE - PAGE, 1024, 64);
        walk.pages(MODE_S, LOAD, 32 * PAGE, 1024, 64);
        box.latest(77, 0, false);
    }

    private static void fullPages() {
        sentence("(4,096 bytes each, at most n of 1 .. 1,024 ..)");
        Box box = Walk.OF_S.box().put(at(ROOT, 0), to(TABLE, V)).put(at(ROOT, 1), to(TABLE, V));
        for (int index = 0; index < 1020; index += 5) {
            int leaf = to(index % 64, FULL);
            box.call().poke(at(TABLE, index), leaf, leaf, leaf, leaf, leaf);
        }
        int leaf = to(63, FULL);
        box.call().poke(at(TABLE, 1019), leaf, leaf, leaf, leaf, leaf);
        box.pages(MODE_S, FETCH, 0, 1024, 1024);
        box.pages(MODE_S, FETCH, 0, 1023, 1023);
        box.pages(MODE_S, FETCH, 4095, 1024, 1024);
        box.pages(MODE_S, FETCH, LARGE, 1024, 1024);
        box.pages(MODE_S, FETCH, LARGE + PAGE, 1024, 1023);
        box.pages(MODE_S, FETCH, LARGE - 1, 1024, 1024);
        box.pages(MODE_U, FETCH, 0, 1024, 0);
    }

    private static void modesAndKindsOfPages() {
        sentence("BAD: no such .. mode, kind");
        Box box = new Box().roots(0, ON | GUEST_ROOT, ON | ROOT);
        box.refuses(MODE_VS, LOAD, LARGE, at(GUEST_ROOT, 1), true);
        int[][] bad = {{-1, 0}, {4, 0}, {4, 3}, {LAST, 1}, {LEAST, 1}, {0, 3}, {1, 3}, {0, -1}, {1, 4}, {2, 4},
            {3, 4}, {2, -1}, {3, -1}, {3, LAST}, {2, LEAST}};
        for (int[] pair : bad) {
            box.pages(pair[0], pair[1], 0, 1, -1);
            box.pages(pair[0], pair[1], -1, 1024, -1);
            box.pages(pair[0], pair[1], 0, 0, -1);
        }
        box.latest(-1, GUEST_ROOT * 1024 + 1, true);
        box.roots(0, 0, 0);
        for (int mode = 0; mode < 4; mode++) {
            for (int kind = 0; kind <= lastKind(mode); kind++) {
                box.pages(mode, kind, 0, 65, 64);
            }
        }
    }

    private static void terms() {
        ofAtMost512Calls();
        bytesOfMemory();
        eachWordIsItsOwn();
        allWordsAreZeroAtFirst();
        numbersHave32Bits();
        modes();
        kinds();
        countedBitsOfRoots();
        bitsOfRights();
    }

    private static void walks() {
        upperTenBits();
        twelveBitsOfTheSecondStage();
        nextTenBits();
        tableOfAnEntry();
        leafBits();
        fullTables();
        emptyTables();
        writeWithoutRead();
        tableEntryWithUserAccessedOrDirty();
        secondEntryIsNoLeaf();
        lowFrameBitsOfALeafInTheFirstTable();
        whatALeafAllows();
        accessedAndDirty();
        resultOfALeaf();
        resultOfALeafInTheFirstTable();
    }

    private static void stages() {
        withoutAtp();
        noSecondStage();
        userBitOfFirstStage();
        sumOfS();
        mxrOfFirstStage();
        faultsOfFirstStage();
        withoutVsAtp();
        vsSum();
        vsMxr();
        loadsForExecution();
        withoutHgatp();
        rootOfTheSecondStage();
        secondStageWantsUser();
        anEntryIsALoad();
        mxrOfTheSecondStage();
        faultsOfTheSecondStage();
        placeOfAnEntryThatIsNoByte();
        resultThatIsNoByte();
        firstOnTheWay();
    }

    private static void promisesOneToSix() {
        newObject();
        begin();
        fiveWords();
        pokeBelowZero();
        pokeOffTheWords();
        pokeBeyondMemory();
        wordWhereThereIsOne();
        wordWhereThereIsNone();
        wordOffTheWords();
        roots();
        rights();
    }

    private static void promisesSevenToEleven() {
        noSuchMode();
        noSuchKind();
        whereAnAddressLeads();
        placeAfterAnException();
        placeOfNone();
        placeOfTheLatest();
        secondOfTheSecondStage();
        secondOfTheLatest();
        secondOfAllElse();
        entry();
        pagesFromAnAddressOn();
        pagesToTheLastAddress();
        pagesLeaveWhatIsAtHand();
        numbersOfPages();
        fullPages();
        modesAndKindsOfPages();
    }

    public static void main(String[] args) {
        terms();
        walks();
        stages();
        promisesOneToSix();
        promisesSevenToEleven();
        System.out.println(wrong == 0 ? "all answers are as due" : wrong + " answers are not as due");
        if (wrong != 0) {
            System.exit(1);
        }
    }
}
