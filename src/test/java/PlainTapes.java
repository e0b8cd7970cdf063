import java.util.ArrayList;
import java.util.BitSet;
import java.util.List;

/**
 * The document's words done block by block on real tapes, to hold the program against. It is
 * slow and shares no arithmetic with the program: all tapes are written anew for each change.
 */
final class PlainTapes {
    private record Dump(int level, int blocks) {}

    private static final int UNWRITTEN = -2;
    private static final int LABEL = -1;

    private final List<Dump> dumps = new ArrayList<>();
    private final boolean[] lost = new boolean[64];
    private int size;
    private int[][] tape;
    private List<BitSet> lies;
    private List<List<Integer>> places;

    PlainTapes() {
        begin(100);
    }

    void begin(int blocks) {
        if (blocks < 2 || blocks > 1000) {
            throw new IllegalArgumentException();
        }
        size = blocks;
        dumps.clear();
        java.util.Arrays.fill(lost, false);
        write();
    }

    /** Writes all dumps anew; false if the tapes do not hold them. */
    private boolean write() {
        tape = new int[64][size];
        for (int[] volume : tape) {
            java.util.Arrays.fill(volume, UNWRITTEN);
        }
        lies = new ArrayList<>();
        places = new ArrayList<>();
        int volume = 0;
        int block = 0;
        for (int d = 0; d < dumps.size(); d++) {
            lies.add(new BitSet());
            places.add(new ArrayList<>());
            for (int k = 0; k < dumps.get(d).blocks(); k++) {
                if (block == size) {
                    volume++;
                    block = 0;
                }
                if (volume == 64) {
                    return false;
                }
                if (block == 0) {
                    tape[volume][block++] = LABEL;
                }
                lies.get(d).set(volume);
                places.get(d).add(1000 * volume + block);
                tape[volume][block++] = d;
            }
        }
        return true;
    }

    int dump(int level, int blocks) {
        if (level < 0 || level > 9 || blocks < 1 || blocks > 500) {
            throw new IllegalArgumentException();
        }
        if (dumps.size() == 300) {
            throw new IllegalStateException();
        }
        dumps.add(new Dump(level, blocks));
        if (!write()) {
            dumps.remove(dumps.size() - 1);
            write();
            throw new IllegalStateException();
        }
        return dumps.size() - 1;
    }

    void drop(int n) {
        if (n < 0 || n > dumps.size()) {
            throw new IllegalArgumentException();
        }
        for (int i = 0; i < n; i++) {
            dumps.remove(dumps.size() - 1);
        }
        write();
    }

    private List<Integer> chainOf(int dump) {
        if (dump < 0 || dump >= dumps.size()) {
            throw new IndexOutOfBoundsException();
        }
        List<Integer> chain = new ArrayList<>();
        int level = 10;
        for (int d = dump; d >= 0; d--) {
            if (dumps.get(d).level() < level) {
                chain.add(d);
                level = dumps.get(d).level();
            }
        }
        return chain;
    }

    int chain(int dump, int k) {
        List<Integer> chain = chainOf(dump);
        if (k < 0) {
            throw new IllegalArgumentException();
        }
        return k < chain.size() ? chain.get(k) : -1;
    }

    int depth(int dump) {
        return chainOf(dump).size();
    }

    int place(int dump, int k) {
        chainOf(dump);
        if (k < 0 || k >= dumps.get(dump).blocks()) {
            throw new IllegalArgumentException();
        }
        return places.get(dump).get(k);
    }

    int owner(int volume, int block) {
        if (volume < 0 || volume > 63 || block < 0 || block >= size) {
            throw new IllegalArgumentException();
        }
        return Math.max(-1, tape[volume][block]);
    }

    private BitSet needed(int dump) {
        BitSet volumes = new BitSet();
        for (int d : chainOf(dump)) {
            volumes.or(lies.get(d));
        }
        return volumes;
    }

    private static long bits(BitSet volumes) {
        return volumes.isEmpty() ? 0L : volumes.toLongArray()[0];
    }

    long needs(int dump) {
        return bits(needed(dump));
    }

    boolean lose(int volume, boolean now) {
        if (volume < 0 || volume > 63) {
            throw new IllegalArgumentException();
        }
        boolean before = lost[volume];
        lost[volume] = now;
        return before;
    }

    boolean good(int dump) {
        return needed(dump).stream().noneMatch(v -> lost[v]);
    }

    int latest(int dump) {
        int found = -1;
        chainOf(dump);
        for (int d = 0; d <= dump; d++) {
            found = good(d) ? d : found;
        }
        return found;
    }

    long spare(int n) {
        if (n < 0) {
            throw new IllegalArgumentException();
        }
        BitSet volumes = new BitSet();
        for (int v = 0; v < 64; v++) {
            volumes.set(v, tape[v][0] != UNWRITTEN);
        }
        for (int i = 0; i < n && i < dumps.size(); i++) {
            volumes.andNot(needed(dumps.size() - 1 - i));
        }
        return bits(volumes);
    }

    int count(int what) {
        int n = 0;
        switch (what) {
            case 0 -> n = dumps.size();
            case 1 -> {
                for (int[] volume : tape) {
                    n += volume[0] == UNWRITTEN ? 0 : 1;
                }
            }
            case 2 -> {
                for (int[] volume : tape) {
                    for (int block : volume) {
                        n += block == UNWRITTEN ? 0 : 1;
                    }
                }
            }
            case 3 -> {
                for (int d = 0; d < dumps.size(); d++) {
                    n += good(d) ? 1 : 0;
                }
            }
            case 4 -> {
                for (int d = 0; d < dumps.size(); d++) {
                    n = Math.max(n, depth(d));
                }
            }
            case 5 -> {
                for (boolean one : lost) {
                    n += one ? 1 : 0;
                }
            }
            default -> throw new IllegalArgumentException();
        }
        return n;
    }
}
