/** Each promise of the document by answers worked out by hand: ordinary inputs, edges, wrong inputs. */
public final class StageWalkerPromises {
    private static final int ON = 1 << 31;
    private static final int V = 1;
    private static final int R = 2;
    private static final int W = 4;
    private static final int X = 8;
    private static final int U = 16;
    private static final int A = 64;
    private static final int D = 128;
    private static final int FULL = V | R | W | X | A | D;
    private static final int FULL_U = FULL | U;

    private static final int SUM = 1;
    private static final int MXR = 2;
    private static final int VS_SUM = 4;
    private static final int VS_MXR = 8;

    private static final int MODE_U = 0;
    private static final int MODE_S = 1;
    private static final int MODE_VU = 2;
    private static final int MODE_VS = 3;
    private static final int FETCH = 0;
    private static final int LOAD = 1;
    private static final int STORE = 2;
    private static final int EXEC = 3;

    // Frames of the tables that the tests build; the second stage's root fills four frames.
    private static final int FIRST_ROOT = 2;
    private static final int FIRST_TABLE = 3;
    private static final int SECOND_ROOT = 8;
    private static final int SECOND_TABLE = 12;
    private static final int MEGA = 1 << 22;

    private static int wrong = 0;
    private static String part = "";

    private static void due(String call, long got, long want) {
        if (got != want) {
            wrong++;
            System.out.println(part + ": " + call + " answered " + got + ", due is " + want);
        }
    }

    private static void due(String call, boolean got, boolean want) {
        due(call, got ? 1 : 0, want ? 1 : 0);
    }

    private static void dueLatest(StageWalker x, int place, int second, boolean entry) {
        due("place()", x.place(), place);
        due("second()", x.second(), second);
        due("entry()", x.entry(), entry);
    }

    // The words of the newest object: put keeps an object's calls far below the 512 that are promised.
    private static int[] image = new int[65536];

    private static StageWalker fresh() {
        image = new int[65536];
        return new StageWalker();
    }

    /** One word of the newest object, the four behind it kept (poke writes five). */
    private static void put(StageWalker x, int address, int word) {
        int from = Math.min(address, 262124);
        int i = from / 4;
        image[address / 4] = word;
        int behind = x.poke(from, image[i], image[i + 1], image[i + 2], image[i + 3], image[i + 4]);
        due("poke(" + from + ", ..)", behind, from + 20);
    }

    private static int at(int frame, int index) {
        return frame * 4096 + 4 * index;
    }

    private static int to(int frame, int flags) {
        return frame << 10 | flags;
    }

    private static void dueTranslate(StageWalker x, int mode, int kind, int address, int want) {
        due("translate(" + mode + ", " + kind + ", " + address + ")", x.translate(mode, kind, address), want);
    }

    private static void dueAtPlace(StageWalker x, int mode, int kind, int address, int place) {
        dueTranslate(x, mode, kind, address, 0);
        dueLatest(x, place, 0, false);
    }

    /** U and S with tables: address 0 .. 4 MiB - 1 by FIRST_TABLE. */
    private static StageWalker withAtp() {
        StageWalker x = fresh();
        put(x, at(FIRST_ROOT, 0), to(FIRST_TABLE, V));
        x.roots(ON | FIRST_ROOT, 0, 0);
        return x;
    }

    /** VU and VS by VS ATP and HGATP; the second stage leads each of its first 64 pages to itself. */
    private static StageWalker withBoth() {
        StageWalker x = fresh();
        put(x, at(FIRST_ROOT, 0), to(FIRST_TABLE, V));
        put(x, at(SECOND_ROOT, 0), to(SECOND_TABLE, V));
        for (int page = 0; page < 64; page++) {
            put(x, at(SECOND_TABLE, page), to(page, FULL_U));
        }
        x.roots(0, ON | FIRST_ROOT, ON | SECOND_ROOT);
        return x;
    }

    /** Some 260 words, the first and last and those of all frames among them. */
    private static void dueAllZero(StageWalker x) {
        for (int address = 0; address < 262140; address += 1028) {
            due("word(" + address + ")", x.word(address), 0);
        }
        due("word(262140)", x.word(262140), 0);
    }

    private static void newObject() {
        part = "promise 1";
        StageWalker x = fresh();
        due("BAD", StageWalker.BAD, -1);
        dueLatest(x, -1, 0, false);
        dueAllZero(x);
        due("rights(0)", x.rights(0), 0);
        for (int mode = 0; mode < 4; mode++) {
            dueAtPlace(x, mode, LOAD, 4660 + mode, 4660 + mode);
        }
        StageWalker other = new StageWalker();
        put(x, 0, 7);
        due("word(0) of another object", other.word(0), 0);
    }

    private static void begin() {
        part = "promise 2";
        StageWalker x = withBoth();
        put(x, 262140, 9);
        x.roots(ON | FIRST_ROOT, ON | FIRST_ROOT, ON | SECOND_ROOT);
        x.rights(15);
        put(x, at(SECOND_TABLE, FIRST_TABLE), 0);
        dueTranslate(x, MODE_VS, LOAD, 0, 21);
        dueLatest(x, -1, FIRST_TABLE * 1024, true);
        x.begin();
        dueLatest(x, -1, 0, false);
        due("rights(0)", x.rights(0), 0);
        dueAllZero(x);
        for (int page = 0; page < 64; page++) {
            due("word in the table", x.word(at(SECOND_TABLE, page)), 0);
        }
        for (int mode = 0; mode < 4; mode++) {
            dueAtPlace(x, mode, STORE, 8, 8);
        }
        x.begin();
        dueLatest(x, -1, 0, false);
    }

    private static void poke() {
        part = "promise 3";
        StageWalker x = fresh();
        due("poke(0, ..)", x.poke(0, 1, -2, 3, Integer.MIN_VALUE, 5), 20);
        int[] want = {1, -2, 3, Integer.MIN_VALUE, 5, 0};
        for (int i = 0; i < want.length; i++) {
            due("word(" + 4 * i + ")", x.word(4 * i), want[i]);
        }
        due("poke(8, ..)", x.poke(8, 10, 20, 30, 40, 50), 28);
        due("word(4)", x.word(4), -2);
        due("word(8)", x.word(8), 10);
        due("word(24)", x.word(24), 50);
        due("poke(262124, ..)", x.poke(262124, 1, 2, 3, 4, 5), 262144);
        due("word(262124)", x.word(262124), 1);
        due("word(262140)", x.word(262140), 5);
        int[] bad = {-4, -1, 1, 2, 3, 262125, 262128, 262132, 262136, 262140, 262144, 262148,
            Integer.MAX_VALUE, Integer.MAX_VALUE - 3, Integer.MAX_VALUE - 19, Integer.MIN_VALUE, -20};
        for (int address : bad) {
            due("poke(" + address + ", ..)", x.poke(address, 99, 99, 99, 99, 99), -1);
        }
        int[] kept = {1, -2, 10, 20, 30, 40, 50, 0, 0, 0};
        for (int i = 0; i < kept.length; i++) {
            due("word(" + 4 * i + ")", x.word(4 * i), kept[i]);
        }
        for (int i = 0; i < 6; i++) {
            due("word(" + (262120 + 4 * i) + ")", x.word(262120 + 4 * i), i);
        }
        dueAtPlace(x, MODE_S, LOAD, 5, 5);
        x.poke(40, 1, 1, 1, 1, 1);
        x.poke(41, 1, 1, 1, 1, 1);
        dueLatest(x, 5, 0, false);
    }

    private static void word() {
        part = "promise 4";
        StageWalker x = fresh();
        x.poke(0, -1, -1, -1, -1, -1);
        x.poke(262124, -1, -1, -1, -1, -7);
        due("word(0)", x.word(0), -1);
        due("word(16)", x.word(16), -1);
        due("word(20)", x.word(20), 0);
        due("word(262140)", x.word(262140), -7);
        int[] none = {1, 2, 3, 5, 262139, 262141, 262143, 262144, 262148, -1, -4, -262144,
            Integer.MIN_VALUE, Integer.MIN_VALUE + 16, Integer.MAX_VALUE, Integer.MAX_VALUE - 3};
        for (int address : none) {
            due("word(" + address + ")", x.word(address), 0);
        }
    }

    private static void roots() {
        part = "promise 5";
        StageWalker x = withBoth();
        put(x, at(FIRST_TABLE, 0), to(20, FULL));
        dueAtPlace(x, MODE_S, LOAD, 5, 5);
        dueAtPlace(x, MODE_VS, LOAD, 5, 20 * 4096 + 5);
        x.roots(ON | FIRST_ROOT, 0, 0);
        dueLatest(x, 20 * 4096 + 5, 0, false);
        dueAtPlace(x, MODE_S, LOAD, 6, 20 * 4096 + 6);
        dueAtPlace(x, MODE_VS, LOAD, 6, 6);
        x.roots(FIRST_ROOT, FIRST_ROOT, SECOND_ROOT);
        dueAtPlace(x, MODE_S, LOAD, 7, 7);
        dueAtPlace(x, MODE_VS, LOAD, 7, 7);
        int notCounted = 0x7FC00000;
        x.roots(ON | notCounted | FIRST_ROOT, ON | notCounted | FIRST_ROOT, ON | notCounted | SECOND_ROOT | 3);
        dueAtPlace(x, MODE_S, LOAD, 8, 20 * 4096 + 8);
        dueAtPlace(x, MODE_VS, LOAD, 8, 20 * 4096 + 8);
        put(x, at(SECOND_TABLE, 20), to(21, FULL_U));
        dueAtPlace(x, MODE_S, LOAD, 8, 20 * 4096 + 8);
        dueAtPlace(x, MODE_VS, LOAD, 8, 21 * 4096 + 8);
        x.roots(ON | 1 << 21 | FIRST_ROOT, ON | FIRST_ROOT, ON | 1 << 21 | SECOND_ROOT);
        dueTranslate(x, MODE_S, STORE, 8, 7);
        dueTranslate(x, MODE_VS, STORE, 8, 7);
        x.roots(0, 0, ON | SECOND_ROOT);
        dueAtPlace(x, MODE_VU, FETCH, 20 * 4096 + 9, 21 * 4096 + 9);
        dueAtPlace(x, MODE_U, FETCH, 20 * 4096 + 9, 20 * 4096 + 9);
    }

    private static void rights() {
        part = "promise 6";
        StageWalker x = fresh();
        dueAtPlace(x, MODE_S, LOAD, 5, 5);
        int[] bits = {0, 5, 10, 15, 16, -1, 0x7FFFFFF3, Integer.MIN_VALUE, 8, 0};
        int before = 0;
        for (int b : bits) {
            due("rights(" + b + ")", x.rights(b), before);
            before = b & 15;
        }
        dueLatest(x, 5, 0, false);
    }

    private static void noTables() {
        part = "promise 7, no tables";
        StageWalker x = fresh();
        int[] noMemory = {1, 5, 7, 5};
        for (int mode = 0; mode < 4; mode++) {
            for (int kind = 0; kind < (mode < 2 ? 3 : 4); kind++) {
                dueAtPlace(x, mode, kind, 0, 0);
                dueAtPlace(x, mode, kind, 262143, 262143);
                for (int address : new int[] {262144, -1, Integer.MIN_VALUE, Integer.MAX_VALUE}) {
                    dueTranslate(x, mode, kind, address, noMemory[kind]);
                    dueLatest(x, -1, 0, false);
                }
            }
        }
    }

    private static void wrongModesAndKinds() {
        part = "promise 7, no such mode or kind";
        StageWalker x = withBoth();
        put(x, at(SECOND_TABLE, FIRST_TABLE), 0);
        dueTranslate(x, MODE_VS, STORE, 0, 23);
        int[][] bad = {{0, 3}, {1, 3}, {0, -1}, {1, 4}, {2, 4}, {3, 4}, {2, -1}, {3, -1}, {-1, 0}, {4, 0},
            {-1, 3}, {4, 3}, {Integer.MIN_VALUE, 1}, {Integer.MAX_VALUE, 1}, {3, Integer.MAX_VALUE},
            {3, Integer.MIN_VALUE}};
        for (int[] b : bad) {
            dueTranslate(x, b[0], b[1], 0, -1);
            dueLatest(x, -1, FIRST_TABLE * 1024, true);
        }
        dueAtPlace(x, MODE_U, LOAD, 3, 3);
        dueTranslate(x, MODE_U, EXEC, 4, -1);
        dueLatest(x, 3, 0, false);
    }

    /** What a leaf of the lower table answers U and S: one row {flags, U's three, S's three}. */
    private static void leavesOfFirstStage() {
        part = "promise 7, leaves";
        int[][] rows = {
            {FULL, 12, 13, 15, 0, 0, 0},
            {FULL_U, 0, 0, 0, 12, 13, 15},
            {FULL & ~V, 12, 13, 15, 12, 13, 15},
            {FULL & ~A, 12, 13, 15, 12, 13, 15},
            {FULL & ~D, 12, 13, 15, 0, 0, 15},
            {FULL & ~X, 12, 13, 15, 12, 0, 0},
            {FULL & ~W, 12, 13, 15, 0, 0, 15},
            {FULL & ~R, 12, 13, 15, 12, 13, 15},
            {V | X | A, 12, 13, 15, 0, 13, 15},
            {V | W | A | D, 12, 13, 15, 12, 13, 15},
            {V | W | X | A | D | U, 12, 13, 15, 12, 13, 15},
            {V | R | A | U, 12, 0, 15, 12, 13, 15},
            {V | R | W | A | U, 12, 0, 15, 12, 13, 15},
            {V | R | W | D | U, 12, 13, 15, 12, 13, 15},
            {V, 12, 13, 15, 12, 13, 15},
            {V | A | D | U, 12, 13, 15, 12, 13, 15},
            {FULL | 32 | 256 | 512, 12, 13, 15, 0, 0, 0},
            {0, 12, 13, 15, 12, 13, 15},
        };
        StageWalker x = withAtp();
        for (int[] row : rows) {
            put(x, at(FIRST_TABLE, 1023), to(30, row[0]));
            for (int mode = 0; mode < 2; mode++) {
                for (int kind = 0; kind < 3; kind++) {
                    dueTranslate(x, mode, kind, MEGA - 1, row[1 + 3 * mode + kind]);
                    dueLatest(x, row[1 + 3 * mode + kind] == 0 ? 31 * 4096 - 1 : -1, 0, false);
                }
            }
        }
    }

    private static void tableEntriesOfFirstStage() {
        part = "promise 7, entries of the first table";
        StageWalker x = withAtp();
        put(x, at(FIRST_TABLE, 1), to(33, FULL));
        dueAtPlace(x, MODE_S, LOAD, 4096 + 7, 33 * 4096 + 7);
        for (int bit : new int[] {U, A, D}) {
            put(x, at(FIRST_ROOT, 0), to(FIRST_TABLE, V | bit));
            dueTranslate(x, MODE_S, LOAD, 4096, 13);
        }
        put(x, at(FIRST_ROOT, 0), to(FIRST_TABLE, 0));
        dueTranslate(x, MODE_S, STORE, 4096, 15);
        put(x, at(FIRST_ROOT, 0), to(FIRST_TABLE, V | 32 | 256 | 512));
        dueAtPlace(x, MODE_S, LOAD, 4096 + 7, 33 * 4096 + 7);
        put(x, at(FIRST_ROOT, 0), to(64, V));
        dueTranslate(x, MODE_S, FETCH, 4096, 1);
        put(x, at(FIRST_ROOT, 0), to(-1, V));
        dueTranslate(x, MODE_S, STORE, 4096, 7);
        put(x, at(FIRST_ROOT, 1023), to(FIRST_TABLE, V));
        put(x, at(FIRST_TABLE, 1023), to(34, FULL));
        dueAtPlace(x, MODE_S, LOAD, -1, 35 * 4096 - 1);
        put(x, at(FIRST_TABLE, 1023), to(64, FULL));
        dueTranslate(x, MODE_S, LOAD, -1, 5);
        put(x, at(FIRST_TABLE, 1023), to(1 << 20, FULL));
        dueTranslate(x, MODE_S, FETCH, -1, 1);
    }

    private static void largeLeaves() {
        part = "promise 7, leaves in the first table";
        StageWalker x = withAtp();
        put(x, at(FIRST_ROOT, 1), to(0, FULL));
        dueAtPlace(x, MODE_S, STORE, MEGA + 262143, 262143);
        dueTranslate(x, MODE_S, STORE, MEGA + 262144, 7);
        dueTranslate(x, MODE_U, STORE, MEGA + 262144, 15);
        for (int bit = 10; bit < 20; bit++) {
            put(x, at(FIRST_ROOT, 1), 1 << bit | FULL);
            dueTranslate(x, MODE_S, LOAD, MEGA, 13);
        }
        for (int bit = 20; bit < 32; bit++) {
            put(x, at(FIRST_ROOT, 1), 1 << bit | FULL);
            dueTranslate(x, MODE_S, LOAD, MEGA, 5);
        }
        put(x, at(FIRST_ROOT, 1), to(0, V | W | X | A | D));
        dueTranslate(x, MODE_S, LOAD, MEGA, 13);
        put(x, at(FIRST_ROOT, 1), to(0, FULL & ~V));
        dueTranslate(x, MODE_S, LOAD, MEGA, 13);
    }

    private static void rightsOfFirstStage() {
        part = "promise 7, SUM and MXR";
        for (int pair = 0; pair < 2; pair++) {
            StageWalker x = pair == 0 ? withAtp() : withBoth();
            int user = pair == 0 ? MODE_U : MODE_VU;
            int lord = user + 1;
            int sum = pair == 0 ? SUM : VS_SUM;
            int otherSum = pair == 0 ? VS_SUM : SUM;
            put(x, at(FIRST_TABLE, 0), to(20, FULL_U));
            put(x, at(FIRST_TABLE, 1), to(20, V | X | A));
            put(x, at(FIRST_TABLE, 2), to(20, V | X | A | U));
            x.rights(15 & ~sum);
            dueTranslate(x, lord, LOAD, 0, 13);
            dueTranslate(x, lord, STORE, 0, 15);
            x.rights(sum);
            dueTranslate(x, lord, FETCH, 0, 12);
            dueAtPlace(x, lord, LOAD, 0, 20 * 4096);
            dueAtPlace(x, lord, STORE, 0, 20 * 4096);
            dueTranslate(x, user, LOAD, 4096, 13);
            dueTranslate(x, lord, LOAD, 4096, 13);
            dueTranslate(x, lord, LOAD, 8192, 13);
            x.rights(otherSum);
            dueTranslate(x, lord, LOAD, 0, 13);
            x.rights(MXR);
            dueAtPlace(x, lord, LOAD, 4096, 20 * 4096);
            dueTranslate(x, lord, STORE, 4096, 15);
            dueTranslate(x, user, LOAD, 4096, 13);
            dueAtPlace(x, user, LOAD, 8192, 20 * 4096);
            dueTranslate(x, lord, LOAD, 8192, 13);
            x.rights(MXR | sum);
            dueAtPlace(x, lord, LOAD, 8192, 20 * 4096);
            x.rights(VS_MXR);
            dueTranslate(x, lord, LOAD, 4096, pair == 0 ? 13 : 0);
        }
    }

    private static void loadsForExecution() {
        part = "promise 7, loads for execution";
        StageWalker x = withBoth();
        put(x, at(FIRST_TABLE, 0), to(20, V | X | A));
        put(x, at(FIRST_TABLE, 1), to(20, V | R | W | A | D));
        put(x, at(FIRST_TABLE, 2), to(20, V | X));
        put(x, at(FIRST_TABLE, 3), to(20, V | X | A | U));
        for (int rights = 0; rights < 16; rights++) {
            x.rights(rights);
            dueAtPlace(x, MODE_VS, EXEC, 5, 20 * 4096 + 5);
            dueTranslate(x, MODE_VU, EXEC, 5, 13);
            dueTranslate(x, MODE_VS, EXEC, 4096, 13);
            dueTranslate(x, MODE_VS, EXEC, 8192, 13);
            dueTranslate(x, MODE_VS, EXEC, 12288, (rights & VS_SUM) != 0 ? 0 : 13);
            dueAtPlace(x, MODE_VU, EXEC, 12288, 20 * 4096);
        }
        put(x, at(SECOND_TABLE, 20), to(20, V | R | W | A | D | U));
        for (int rights = 0; rights < 16; rights++) {
            x.rights(rights);
            dueTranslate(x, MODE_VS, EXEC, 4, 21);
            dueLatest(x, -1, 20 * 1024 + 1, false);
        }
        put(x, at(SECOND_TABLE, 20), to(64, FULL_U));
        dueTranslate(x, MODE_VS, EXEC, 4, 5);
    }

    /** What a leaf of the second stage answers for a result: one row {flags, the four kinds'}. */
    private static void leavesOfSecondStage() {
        part = "promise 7, leaves of the second stage";
        int[][] rows = {
            {FULL_U, 0, 0, 0, 0},
            {FULL, 20, 21, 23, 21},
            {FULL_U & ~V, 20, 21, 23, 21},
            {FULL_U & ~A, 20, 21, 23, 21},
            {FULL_U & ~D, 0, 0, 23, 0},
            {FULL_U & ~X, 20, 0, 0, 21},
            {FULL_U & ~W, 0, 0, 23, 0},
            {FULL_U & ~R, 20, 21, 23, 21},
            {V | X | A | U, 0, 21, 23, 0},
            {V | R | A | U, 20, 0, 23, 21},
            {V, 20, 21, 23, 21},
            {V | U | A | D, 20, 21, 23, 21},
        };
        StageWalker x = withBoth();
        x.roots(0, 0, ON | SECOND_ROOT);
        for (int[] row : rows) {
            put(x, at(SECOND_TABLE, 50), to(40, row[0]));
            for (int mode = 2; mode < 4; mode++) {
                for (int kind = 0; kind < 4; kind++) {
                    boolean good = row[1 + kind] == 0;
                    dueTranslate(x, mode, kind, 50 * 4096 + 12, row[1 + kind]);
                    dueLatest(x, good ? 40 * 4096 + 12 : -1, good ? 0 : 50 * 1024 + 3, false);
                }
            }
        }
        put(x, at(SECOND_TABLE, 50), to(40, V | X | A | U));
        x.rights(MXR);
        dueTranslate(x, MODE_VU, LOAD, 50 * 4096, 0);
        x.rights(15 & ~MXR);
        dueTranslate(x, MODE_VU, LOAD, 50 * 4096, 21);
    }

    private static void entriesThroughSecondStage() {
        part = "promise 7, entries through the second stage";
        int[][] rows = {
            {V | R | A | U, 0}, {FULL_U, 0}, {FULL, 1}, {V | X | A | U, 1}, {V | R | U, 1}, {V | R | A, 1},
            {FULL_U & ~R, 1}, {R | A | U, 1},
        };
        int[] faults = {20, 21, 23, 21};
        for (int frame : new int[] {FIRST_ROOT, FIRST_TABLE}) {
            StageWalker x = withBoth();
            x.rights(15);
            put(x, at(FIRST_TABLE, 5), to(20, FULL));
            for (int[] row : rows) {
                put(x, at(SECOND_TABLE, frame), to(frame, row[0]));
                for (int kind = 0; kind < 4; kind++) {
                    boolean good = row[1] == 0;
                    int index = frame == FIRST_ROOT ? 0 : 5;
                    dueTranslate(x, MODE_VS, kind, 5 * 4096 + 1, good ? 0 : faults[kind]);
                    dueLatest(x, good ? 20 * 4096 + 1 : -1, good ? 0 : frame * 1024 + index, !good);
                }
            }
            put(x, at(SECOND_TABLE, frame), to(64, FULL_U));
            dueTranslate(x, MODE_VS, STORE, 5 * 4096, 7);
            dueLatest(x, -1, 0, false);
            put(x, at(SECOND_TABLE, frame), to(40, FULL_U));
            put(x, at(40, 0), to(FIRST_TABLE, V));
            put(x, at(40, 5), to(21, FULL));
            dueAtPlace(x, MODE_VS, STORE, 5 * 4096, (frame == FIRST_ROOT ? 20 : 21) * 4096);
        }
    }

    private static void wideAddressesOfSecondStage() {
        part = "promise 7, twelve upper bits";
        StageWalker x = withBoth();
        put(x, at(FIRST_TABLE, 6), to(0x3FFFFF, FULL));
        dueTranslate(x, MODE_VS, LOAD, 6 * 4096 + 4095, 21);
        dueLatest(x, -1, -1, false);
        put(x, at(SECOND_ROOT, 4095), to(SECOND_TABLE, V));
        put(x, at(SECOND_TABLE, 1023), to(45, FULL_U));
        dueAtPlace(x, MODE_VS, LOAD, 6 * 4096 + 4095, 46 * 4096 - 1);
        put(x, at(SECOND_ROOT, 4095), to(0, FULL_U));
        put(x, at(FIRST_TABLE, 6), to(0x3FFC00 | 46, FULL));
        dueAtPlace(x, MODE_VS, LOAD, 6 * 4096 + 9, 46 * 4096 + 9);
        put(x, at(SECOND_ROOT, 4095), to(1, FULL_U));
        dueTranslate(x, MODE_VS, FETCH, 6 * 4096 + 9, 20);
        dueLatest(x, -1, 0xFFF00000 | 46 << 10 | 2, false);
        put(x, at(SECOND_ROOT, 4095), to(1 << 10, FULL_U));
        dueTranslate(x, MODE_VS, FETCH, 6 * 4096 + 9, 1);
        x.roots(0, ON | 0x3FFC00 | FIRST_ROOT, ON | SECOND_ROOT);
        put(x, at(SECOND_ROOT, 4095), to(0, FULL_U));
        put(x, at(FIRST_TABLE, 6), to(20, FULL));
        dueAtPlace(x, MODE_VS, LOAD, 6 * 4096 + 9, 20 * 4096 + 9);
        put(x, at(SECOND_ROOT, 4095), 0);
        dueTranslate(x, MODE_VS, STORE, 6 * 4096 + 9, 23);
        dueLatest(x, -1, 0xFFF00000 | FIRST_ROOT << 10, true);
    }

    private static void firstOnTheWay() {
        part = "promise 7, the first on the way";
        StageWalker x = withBoth();
        put(x, at(FIRST_TABLE, 0), to(64, 0));
        dueTranslate(x, MODE_VS, LOAD, 0, 13);
        put(x, at(FIRST_TABLE, 0), to(64, FULL));
        dueTranslate(x, MODE_VS, LOAD, 0, 21);
        dueLatest(x, -1, 64 * 1024, false);
        put(x, at(SECOND_TABLE, FIRST_TABLE), 0);
        dueTranslate(x, MODE_VS, LOAD, 0, 21);
        dueLatest(x, -1, FIRST_TABLE * 1024, true);
        put(x, at(FIRST_ROOT, 0), to(FIRST_TABLE, V | A));
        dueTranslate(x, MODE_VS, LOAD, 0, 13);
        dueLatest(x, -1, 0, false);
        put(x, at(SECOND_ROOT, 0), to(64, V));
        dueTranslate(x, MODE_VS, LOAD, 0, 5);
        dueLatest(x, -1, 0, false);
        put(x, at(SECOND_ROOT, 0), to(SECOND_TABLE, V | D));
        dueTranslate(x, MODE_VS, LOAD, 0, 21);
        dueLatest(x, -1, FIRST_ROOT * 1024, true);
        x.roots(0, ON | FIRST_ROOT, ON | 64);
        dueTranslate(x, MODE_VS, FETCH, 0, 1);
        x.roots(0, ON | 64, 0);
        dueTranslate(x, MODE_VS, STORE, 0, 7);
        x.roots(0, ON | FIRST_ROOT, 0);
        dueTranslate(x, MODE_VS, STORE, 0, 15);
    }

    private static void place() {
        part = "promise 8";
        StageWalker x = withAtp();
        due("place()", x.place(), -1);
        put(x, at(FIRST_TABLE, 0), to(63, FULL));
        dueAtPlace(x, MODE_S, FETCH, 4095, 262143);
        x.rights(3);
        x.roots(0, 0, 0);
        x.word(5);
        due("place()", x.place(), 262143);
        due("place()", x.place(), 262143);
        dueTranslate(x, MODE_S, FETCH, 262144, 1);
        due("place()", x.place(), -1);
    }

    private static void secondAndEntry() {
        part = "promises 9 and 10";
        StageWalker x = withBoth();
        dueLatest(x, -1, 0, false);
        put(x, at(SECOND_TABLE, FIRST_TABLE), 0);
        dueTranslate(x, MODE_VU, FETCH, 7 * 4096 + 3, 20);
        dueLatest(x, -1, FIRST_TABLE * 1024 + 7, true);
        dueLatest(x, -1, FIRST_TABLE * 1024 + 7, true);
        x.roots(0, 0, ON | SECOND_ROOT);
        x.rights(15);
        dueLatest(x, -1, FIRST_TABLE * 1024 + 7, true);
        dueTranslate(x, MODE_VU, STORE, -1, 23);
        dueLatest(x, -1, 0x3FFFFFFF, false);
        dueTranslate(x, MODE_VU, STORE, FIRST_TABLE * 4096 + 7, 23);
        dueLatest(x, -1, FIRST_TABLE * 1024 + 1, false);
        dueAtPlace(x, MODE_VU, STORE, 4, 4);
    }

    private static void pages() {
        part = "promise 11";
        StageWalker x = fresh();
        due("pages(0, 0, 0, 1)", x.pages(0, 0, 0, 1), 1);
        due("pages(3, 3, 0, 1024)", x.pages(3, 3, 0, 1024), 64);
        due("pages(1, 2, 4095, 64)", x.pages(1, 2, 4095, 64), 64);
        due("pages(1, 2, 4096, 64)", x.pages(1, 2, 4096, 64), 63);
        due("pages(1, 2, -4096, 1024)", x.pages(1, 2, -4096, 1024), 0);
        int[][] bad = {{0, 0, 0}, {0, 0, -1}, {0, 0, 1025}, {0, 0, Integer.MIN_VALUE}, {0, 0, Integer.MAX_VALUE},
            {0, 3, 1}, {1, 3, 1}, {2, 4, 1}, {3, -1, 1}, {-1, 0, 1}, {4, 0, 1}, {4, 3, 1}};
        for (int[] b : bad) {
            due("pages(" + b[0] + ", " + b[1] + ", 0, " + b[2] + ")", x.pages(b[0], b[1], 0, b[2]), -1);
        }
        dueLatest(x, -1, 0, false);

        StageWalker y = withAtp();
        put(y, at(FIRST_ROOT, 1023), to(FIRST_TABLE, V));
        put(y, at(FIRST_TABLE, 0), to(1, FULL));
        put(y, at(FIRST_TABLE, 2), to(1, FULL & ~X));
        put(y, at(FIRST_TABLE, 3), to(64, FULL));
        put(y, at(FIRST_TABLE, 1022), to(1, FULL_U));
        put(y, at(FIRST_TABLE, 1023), to(1, FULL));
        due("pages of loads", y.pages(MODE_S, LOAD, 0, 1024), 3);
        due("pages of fetches", y.pages(MODE_S, FETCH, 0, 1024), 2);
        due("pages of U", y.pages(MODE_U, FETCH, 0, 1024), 1);
        due("the last page", y.pages(MODE_S, LOAD, -1, 1024), 1);
        due("the last page, from its start", y.pages(MODE_S, LOAD, -4096, 2), 1);
        due("the last three pages", y.pages(MODE_S, LOAD, -3 * 4096, 1024), 1);
        due("the last of no table", y.pages(MODE_VS, LOAD, -1, 1024), 0);

        StageWalker z = withBoth();
        put(z, at(FIRST_TABLE, 0), to(20, FULL));
        put(z, at(FIRST_TABLE, 1), to(70, FULL));
        put(z, at(FIRST_TABLE, 2), to(20, FULL));
        dueTranslate(z, MODE_VS, LOAD, 4096 + 8, 21);
        due("pages by both", z.pages(MODE_VS, LOAD, 0, 3), 2);
        put(z, at(SECOND_TABLE, FIRST_TABLE), 0);
        due("pages by both", z.pages(MODE_VS, LOAD, 0, 3), 0);
        dueLatest(z, -1, 70 * 1024 + 2, false);
        dueTranslate(z, MODE_VS, LOAD, 8, 21);
        z.roots(0, 0, 0);
        due("pages by none", z.pages(MODE_VS, LOAD, 0, 3), 3);
        dueLatest(z, -1, FIRST_TABLE * 1024, true);
        dueAtPlace(z, MODE_S, LOAD, 77, 77);
        due("pages by none", z.pages(MODE_VS, LOAD, -4096, 3), 0);
        dueLatest(z, 77, 0, false);
    }

    public static void main(String[] args) {
        newObject();
        begin();
        poke();
        word();
        roots();
        rights();
        noTables();
        wrongModesAndKinds();
        leavesOfFirstStage();
        tableEntriesOfFirstStage();
        largeLeaves();
        rightsOfFirstStage();
        loadsForExecution();
        leavesOfSecondStage();
        entriesThroughSecondStage();
        wideAddressesOfSecondStage();
        firstOnTheWay();
        place();
        secondAndEntry();
        pages();
        System.out.println(wrong == 0 ? "all answers are as due" : wrong + " answers are not as due");
        if (wrong != 0) {
            System.exit(1);
        }
    }
}
