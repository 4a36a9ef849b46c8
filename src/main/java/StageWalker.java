import java.util.Arrays;

/**
 * Where an address leads that is fetched, loaded or stored, in modes of a machine with two stages
 * of translation: by tables in its own memory, each entry's place of the first stage being
 * translated by the second one, or which exception comes instead.
 *
 * <p>Inside, an address or a place is a long of 34 bits, and a negative long is the exception that
 * came instead of it: so a way of several steps goes on without objects, and pages() makes none.
 */
public final class StageWalker {
    public static final int BAD = -1;

    private static final int MEMORY_BYTES = 262_144;
    private static final int WORD_BYTES = 4;
    private static final int POKED_BYTES = 5 * WORD_BYTES;
    private static final long FRAME_BYTES = 4_096L;
    private static final long UNSIGNED_WORD = 0xFFFF_FFFFL;
    private static final int MOST_PAGES = 1_024;

    private static final int MODE_U = 0;
    private static final int MODE_VU = 2;
    private static final int MODE_VS = 3;

    private static final int FETCH = 0;
    private static final int LOAD = 1;
    private static final int STORE = 2;
    private static final int LOAD_FOR_EXECUTION = 3;

    private static final int FRAME_OF_ROOT = 0x3F_FFFF;
    private static final int FRAME_OF_SECOND_ROOT = 0x3F_FFFC;

    private static final int ALL_RIGHTS = 15;
    private static final int SUM = 1;
    private static final int MXR = 2;
    private static final int VS_SUM = 4;
    private static final int VS_MXR = 8;

    private static final long V = 1L;
    private static final long R = 1L << 1;
    private static final long W = 1L << 2;
    private static final long X = 1L << 3;
    private static final long U = 1L << 4;
    private static final long A = 1L << 6;
    private static final long D = 1L << 7;
    private static final long LEAF_BITS = R | W | X;
    private static final long NOT_IN_A_TABLE_ENTRY = U | A | D;
    private static final long LOW_FRAME_BITS = 0x3FFL << 10;

    private static final long BEHIND_PAGE = 0xFFFL;
    private static final long BEHIND_LARGE_PAGE = 0x3F_FFFFL;

    private final int[] words;
    private int atp;
    private int vsAtp;
    private int hgatp;
    private int rights;

    private int latestPlace;
    private int latestSecond;
    private boolean latestEntry;

    // What the second stage refused last, by pages() too: translate() takes it over into "latest".
    private long refusedAddress;
    private boolean refusedEntry;

    public StageWalker() {
        words = new int[MEMORY_BYTES / WORD_BYTES];
        latestPlace = BAD;
    }

    public void begin() {
        Arrays.fill(words, 0);
        atp = 0;
        vsAtp = 0;
        hgatp = 0;
        rights = 0;
        latestPlace = BAD;
        latestSecond = 0;
        latestEntry = false;
    }

    public int poke(int address, int a, int b, int c, int d, int e) {
        if (!isWordOfMemory(address) || address > MEMORY_BYTES - POKED_BYTES) {
            return BAD;
        }
        int first = address / WORD_BYTES;
        words[first] = a;
        words[first + 1] = b;
        words[first + 2] = c;
        words[first + 3] = d;
        words[first + 4] = e;
        return address + POKED_BYTES;
    }

    public int word(int address) {
        return isWordOfMemory(address) ? words[address / WORD_BYTES] : 0;
    }

    public void roots(int atp, int vsAtp, int hgatp) {
        this.atp = atp;
        this.vsAtp = vsAtp;
        this.hgatp = hgatp;
    }

    public int rights(int bits) {
        int before = rights;
        rights = bits & ALL_RIGHTS;
        return before;
    }

    public int translate(int mode, int kind, int address) {
        if (!isKnown(mode, kind)) {
            return BAD;
        }
        long found = lead(mode, kind, address & UNSIGNED_WORD);
        boolean bySecond = found == secondFault(kind);
        latestPlace = found < 0 ? BAD : (int) found;
        latestSecond = bySecond ? (int) (refusedAddress >>> 2) : 0;
        latestEntry = bySecond && refusedEntry;
        return found < 0 ? (int) -found : 0;
    }

    public int place() {
        return latestPlace;
    }

    public int second() {
        return latestSecond;
    }

    public boolean entry() {
        return latestEntry;
    }

    public int pages(int mode, int kind, int address, int n) {
        if (n < 1 || n > MOST_PAGES || !isKnown(mode, kind)) {
            return BAD;
        }
        long from = address & UNSIGNED_WORD;
        int leading = 0;
        for (int i = 0; i < n; i++) {
            long asked = from + i * FRAME_BYTES;
            if (asked <= UNSIGNED_WORD && lead(mode, kind, asked) >= 0) {
                leading++;
            }
        }
        return leading;
    }

    private static boolean isWordOfMemory(int address) {
        return address >= 0 && address < MEMORY_BYTES && address % WORD_BYTES == 0;
    }

    private static boolean isKnown(int mode, int kind) {
        int lastKind = isVirtual(mode) ? LOAD_FOR_EXECUTION : STORE;
        return mode >= MODE_U && mode <= MODE_VS && kind >= FETCH && kind <= lastKind;
    }

    private static boolean isVirtual(int mode) {
        return mode >= MODE_VU;
    }

    private long lead(int mode, int kind, long address) {
        int root = isVirtual(mode) ? vsAtp : atp;
        long result = root < 0 ? walkFirst(mode, kind, address, root) : address;
        long place = throughSecond(mode, kind, result, false);
        return place >= MEMORY_BYTES ? noMemory(kind) : place;
    }

    private long throughSecond(int mode, int kind, long address, boolean ofEntry) {
        boolean walked = address >= 0 && isVirtual(mode) && hgatp < 0;
        return walked ? walkSecond(kind, address, ofEntry) : address;
    }

    private long walkFirst(int mode, int kind, long address, int root) {
        long at = upperEntry(root & FRAME_OF_ROOT, address);
        long entry = entryAt(kind, throughSecond(mode, kind, at, true));
        boolean large = !isTable(entry);
        if (entry >= 0 && !large) {
            at = lowerEntry(entry, address);
            entry = entryAt(kind, throughSecond(mode, kind, at, true));
        }
        if (entry < 0) {
            return entry;
        }
        boolean good = isGoodLeaf(entry, large) && firstAllows(mode, kind, entry);
        return good ? result(entry, large, address) : firstFault(kind);
    }

    private long walkSecond(int kind, long address, boolean ofEntry) {
        long entry = entryAt(kind, upperEntry(hgatp & FRAME_OF_SECOND_ROOT, address));
        boolean large = !isTable(entry);
        if (entry >= 0 && !large) {
            entry = entryAt(kind, lowerEntry(entry, address));
        }
        if (entry < 0) {
            return entry;
        }
        if (isGoodLeaf(entry, large) && secondAllows(kind, entry, ofEntry)) {
            return result(entry, large, address);
        }
        refusedAddress = address;
        refusedEntry = ofEntry;
        return secondFault(kind);
    }

    private static long upperEntry(int frame, long address) {
        return frame * FRAME_BYTES + WORD_BYTES * (address >>> 22);
    }

    private static long lowerEntry(long tableEntry, long address) {
        return (tableEntry >>> 10) * FRAME_BYTES + WORD_BYTES * ((address >>> 12) & 0x3FFL);
    }

    /** The entry at a place as an unsigned word; an exception instead of a place stays what it is. */
    private long entryAt(int kind, long place) {
        if (place < 0) {
            return place;
        }
        if (place >= MEMORY_BYTES) {
            return noMemory(kind);
        }
        return words[(int) place / WORD_BYTES] & UNSIGNED_WORD;
    }

    private static boolean isTable(long entry) {
        return (entry & (V | LEAF_BITS | NOT_IN_A_TABLE_ENTRY)) == V;
    }

    private static boolean isGoodLeaf(long entry, boolean large) {
        boolean leaf = (entry & V) != 0 && (entry & LEAF_BITS) != 0;
        boolean writeAlone = (entry & (R | W)) == W;
        boolean askew = large && (entry & LOW_FRAME_BITS) != 0;
        return leaf && !writeAlone && !askew;
    }

    private boolean firstAllows(int mode, int kind, long leaf) {
        int executableRights = isVirtual(mode) ? VS_MXR | MXR : MXR;
        return userBitFits(mode, kind, leaf)
            && grants(kind, leaf, (rights & executableRights) != 0);
    }

    private boolean userBitFits(int mode, int kind, long leaf) {
        boolean ofUser = (leaf & U) != 0;
        if (mode == MODE_U || mode == MODE_VU) {
            return ofUser;
        }
        int sum = isVirtual(mode) ? VS_SUM : SUM;
        return !ofUser || (kind != FETCH && (rights & sum) != 0);
    }

    private boolean secondAllows(int kind, long leaf, boolean ofEntry) {
        boolean loadsTakeX = !ofEntry && (rights & MXR) != 0;
        return (leaf & U) != 0 && grants(ofEntry ? LOAD : kind, leaf, loadsTakeX);
    }

    private static boolean grants(int kind, long leaf, boolean loadsTakeX) {
        if ((leaf & A) == 0) {
            return false;
        }
        if (kind == STORE) {
            return (leaf & W) != 0 && (leaf & D) != 0;
        }
        if (kind == LOAD) {
            return (leaf & (loadsTakeX ? R | X : R)) != 0;
        }
        return (leaf & X) != 0;
    }

    private static long result(long leaf, boolean large, long address) {
        long behind = large ? BEHIND_LARGE_PAGE : BEHIND_PAGE;
        return (((leaf >>> 10) * FRAME_BYTES) & ~behind) | (address & behind);
    }

    private static long noMemory(int kind) {
        return kind == FETCH ? -1 : kind == STORE ? -7 : -5;
    }

    private static long firstFault(int kind) {
        return kind == FETCH ? -12 : kind == STORE ? -15 : -13;
    }

    private static long secondFault(int kind) {
        return kind == FETCH ? -20 : kind == STORE ? -23 : -21;
    }
}
