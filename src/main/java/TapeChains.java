/**
 * Dumps of levels on tapes: on what each one rests, where it lies, what must be there to have it
 * again, and which tapes nobody needs any more.
 */
public final class TapeChains {
    private static final int MOST_DUMPS = 300;
    private static final int HIGHEST_LEVEL = 9;
    private static final int MOST_DUMP_BLOCKS = 500;
    private static final int VOLUMES = 64;
    private static final int LEAST_VOLUME_BLOCKS = 2;
    private static final int MOST_VOLUME_BLOCKS = 1000;
    private static final int NEW_VOLUME_BLOCKS = 100;
    private static final int PLACE_FACTOR = 1000;
    private static final int NONE = -1;
    private static final long ALL_BITS = -1L;

    // A dump rests on earlier dumps alone, and only the latest ones can go: what is worked out
    // when a dump is made stays true for as long as it is there.
    private final int[] levels;
    private final int[] bases;
    private final int[] depths;
    private final long[] neededVolumes;

    // Blocks of dumps that lie before each dump, labels left out; one entry more than dumps, so
    // that the end of each dump is the start of the next.
    private final int[] starts;

    private int dumps;
    // Blocks of a volume behind its label: never below 1, as no volume has fewer than 2 blocks.
    private int room;
    private long lostVolumes;

    public TapeChains() {
        levels = new int[MOST_DUMPS];
        bases = new int[MOST_DUMPS];
        depths = new int[MOST_DUMPS];
        neededVolumes = new long[MOST_DUMPS];
        starts = new int[MOST_DUMPS + 1];
        clear(NEW_VOLUME_BLOCKS);
    }

    public void begin(int blocks) throws IllegalArgumentException {
        if (blocks < LEAST_VOLUME_BLOCKS || blocks > MOST_VOLUME_BLOCKS) {
            throw new IllegalArgumentException("a volume has 2 to 1000 blocks");
        }
        clear(blocks);
    }

    public int dump(int level, int blocks) throws IllegalArgumentException, IllegalStateException {
        if (level < 0 || level > HIGHEST_LEVEL) {
            throw new IllegalArgumentException("a level is 0 to 9");
        }
        if (blocks < 1 || blocks > MOST_DUMP_BLOCKS) {
            throw new IllegalArgumentException("a dump has 1 to 500 blocks");
        }
        if (dumps >= MOST_DUMPS) {
            throw new IllegalStateException("there are 300 dumps");
        }
        if (starts[dumps] + blocks > VOLUMES * room) {
            throw new IllegalStateException("64 volumes are too few");
        }
        return append(level, blocks);
    }

    public void drop(int n) throws IllegalArgumentException {
        if (n < 0 || n > dumps) {
            throw new IllegalArgumentException("there are not so many dumps");
        }
        dumps -= n;
    }

    public int chain(int dump, int k) throws IndexOutOfBoundsException, IllegalArgumentException {
        checkDump(dump);
        if (k < 0) {
            throw new IllegalArgumentException("a chain is counted from 0");
        }
        int link = dump;
        for (int step = 0; step < k && link != NONE; step++) {
            link = bases[link];
        }
        return link;
    }

    public int depth(int dump) throws IndexOutOfBoundsException {
        checkDump(dump);
        return depths[dump];
    }

    public int place(int dump, int k) throws IndexOutOfBoundsException, IllegalArgumentException {
        checkDump(dump);
        if (k < 0 || k >= starts[dump + 1] - starts[dump]) {
            throw new IllegalArgumentException("the dump has no such block");
        }
        int position = starts[dump] + k;
        return PLACE_FACTOR * volumeAt(position) + 1 + position % room;
    }

    public int owner(int volume, int block) throws IllegalArgumentException {
        checkVolume(volume);
        if (block < 0 || block > room) {
            throw new IllegalArgumentException("a volume has no such block");
        }
        return block == 0 ? NONE : dumpAt(volume * room + block - 1);
    }

    public long needs(int dump) throws IndexOutOfBoundsException {
        checkDump(dump);
        return neededVolumes[dump];
    }

    public boolean lose(int volume, boolean lost) throws IllegalArgumentException {
        checkVolume(volume);
        long bit = 1L << volume;
        boolean before = (lostVolumes & bit) != 0;
        lostVolumes = lost ? lostVolumes | bit : lostVolumes & ~bit;
        return before;
    }

    public boolean good(int dump) throws IndexOutOfBoundsException {
        checkDump(dump);
        return isGood(dump);
    }

    public int latest(int dump) throws IndexOutOfBoundsException {
        checkDump(dump);
        for (int d = dump; d >= 0; d--) {
            if (isGood(d)) {
                return d;
            }
        }
        return NONE;
    }

    public long spare(int n) throws IllegalArgumentException {
        if (n < 0) {
            throw new IllegalArgumentException("n is below 0");
        }
        int written = writtenVolumes();
        long bits = written == 0 ? 0L : bitsFromTo(0, written - 1);
        for (int d = Math.max(0, dumps - n); d < dumps; d++) {
            bits &= ~neededVolumes[d];
        }
        return bits;
    }

    public int count(int what) throws IllegalArgumentException {
        switch (what) {
            case 0:
                return dumps;
            case 1:
                return writtenVolumes();
            case 2:
                return starts[dumps] + writtenVolumes();
            case 3:
                return goodDumps();
            case 4:
                return longestChain();
            case 5:
                return Long.bitCount(lostVolumes);
            default:
                throw new IllegalArgumentException("what is 0 to 5");
        }
    }

    private void clear(int blocks) {
        dumps = 0;
        room = blocks - 1;
        lostVolumes = 0L;
    }

    private void checkDump(int dump) {
        if (dump < 0 || dump >= dumps) {
            throw new IndexOutOfBoundsException("there is no such dump");
        }
    }

    private void checkVolume(int volume) {
        if (volume < 0 || volume >= VOLUMES) {
            throw new IllegalArgumentException("there is no such volume");
        }
    }

    private int append(int level, int blocks) {
        int number = dumps;
        int base = latestBelow(level);
        int end = starts[number] + blocks;
        long own = bitsFromTo(volumeAt(starts[number]), volumeAt(end - 1));
        levels[number] = level;
        bases[number] = base;
        depths[number] = base == NONE ? 1 : depths[base] + 1;
        neededVolumes[number] = base == NONE ? own : own | neededVolumes[base];
        starts[number + 1] = end;
        dumps++;
        return number;
    }

    private int latestBelow(int level) {
        for (int d = dumps - 1; d >= 0; d--) {
            if (levels[d] < level) {
                return d;
            }
        }
        return NONE;
    }

    private int volumeAt(int position) {
        return position / room;
    }

    private int dumpAt(int position) {
        for (int d = 0; d < dumps; d++) {
            if (position < starts[d + 1]) {
                return d;
            }
        }
        return NONE;
    }

    // A label comes only with a block behind it, so a volume that is not yet begun is not written.
    private int writtenVolumes() {
        int written = starts[dumps];
        return written == 0 ? 0 : volumeAt(written - 1) + 1;
    }

    private static long bitsFromTo(int first, int last) {
        return (ALL_BITS << first) & (ALL_BITS >>> (VOLUMES - 1 - last));
    }

    private boolean isGood(int dump) {
        return (neededVolumes[dump] & lostVolumes) == 0;
    }

    private int goodDumps() {
        int good = 0;
        for (int d = 0; d < dumps; d++) {
            if (isGood(d)) {
                good++;
            }
        }
        return good;
    }

    private int longestChain() {
        int longest = 0;
        for (int d = 0; d < dumps; d++) {
            longest = Math.max(longest, depths[d]);
        }
        return longest;
    }
}
