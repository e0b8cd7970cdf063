import java.util.List;

/** A state of the tapes that can be made anew, since one object is good for 512 calls only. */
record Scene(String name, int size, int[][] dumps, int dropped, int... lost) {
    private static final int NEW_SIZE = 100;

    static final Scene NEW = new Scene("a new object", NEW_SIZE, new int[0][], 0);

    /** Dumps on volumes 0-1, 1-2, 2, 2, 3-5. */
    static final Scene FIVE = new Scene("five dumps", 5,
        new int[][] {{0, 6}, {5, 3}, {3, 2}, {7, 1}, {5, 9}}, 0, 2);

    static final Scene DROPPED = new Scene("five of seven dumps", 4,
        new int[][] {{9, 1}, {9, 2}, {1, 4}, {0, 1}, {4, 5}, {0, 7}, {1, 8}}, 2, 1, 5, 60);

    static final Scene ONE_LEFT = new Scene("one block left", 3,
        new int[][] {{2, 100}, {3, 27}}, 0);

    static final Scene FULL = new Scene("full tapes", 2, new int[][] {{0, 63}, {1, 1}}, 0, 63);

    static final Scene LOST = new Scene("all volumes lost", 2, new int[][] {{1, 3}}, 0, upTo(64));

    static final Scene MOST = new Scene("300 dumps", 1000, most(), 0, 0, 63);

    static final Scene MOST_AND_FULL = new Scene("300 dumps on full tapes", 6, mostAndFull(), 0);

    static final List<Scene> ALL =
        List.of(NEW, FIVE, DROPPED, ONE_LEFT, FULL, LOST, MOST, MOST_AND_FULL);

    TapeChains made() {
        TapeChains x = new TapeChains();
        if (size != NEW_SIZE) {
            x.begin(size);
        }
        for (int[] dump : dumps) {
            x.dump(dump[0], dump[1]);
        }
        for (int volume : lost) {
            x.lose(volume, true);
        }
        if (dropped != 0) {
            x.drop(dropped);
        }
        return x;
    }

    int count() {
        return dumps.length - dropped;
    }

    int blocksOf(int dump) {
        return dumps[dump][1];
    }

    private static int[] upTo(int end) {
        int[] all = new int[end];
        for (int i = 0; i < end; i++) {
            all[i] = i;
        }
        return all;
    }

    private static int[][] most() {
        int[][] all = new int[300][];
        for (int d = 0; d < all.length; d++) {
            all[d] = new int[] {d % 10, 1 + d % 200};
        }
        return all;
    }

    /** 64 volumes of 5 blocks behind the label hold 320 blocks: 299 of one each, and 21. */
    private static int[][] mostAndFull() {
        int[][] all = new int[300][];
        for (int d = 0; d < all.length; d++) {
            all[d] = new int[] {9 - d % 10, d == 150 ? 21 : 1};
        }
        return all;
    }
}
