/** One method or two for each promise of the document: ordinary inputs, edges, wrong inputs. */
public final class PromisesTest {
    private static final Class<IllegalArgumentException> ARGUMENT = IllegalArgumentException.class;
    private static final Class<IllegalStateException> STATE = IllegalStateException.class;
    private static final Class<IndexOutOfBoundsException> INDEX = IndexOutOfBoundsException.class;
    private static final int LOW = Integer.MIN_VALUE;
    private static final int HIGH = Integer.MAX_VALUE;
    private static final long HIGH_BIT = Long.MIN_VALUE;

    private static final Answers A = new Answers();

    public static void main(String[] args) {
        newObject();
        begin();
        beginRefuses();
        dump();
        dumpRefuses();
        drop();
        dropRefuses();
        chain();
        depth();
        place();
        owner();
        needs();
        lose();
        good();
        latest();
        spare();
        count();
        A.end();
    }

    /** Volumes of four blocks behind the label; dumps on volumes 0-1, 1-2, 2, 2, 3-5. */
    private static TapeChains five() {
        TapeChains x = new TapeChains();
        x.begin(5);
        x.dump(0, 6);
        x.dump(5, 3);
        x.dump(3, 2);
        x.dump(7, 1);
        x.dump(5, 9);
        return x;
    }

    private static String counts(TapeChains x) {
        StringBuilder all = new StringBuilder();
        for (int what = 0; what <= 5; what++) {
            all.append(x.count(what)).append(' ');
        }
        return all.toString().trim();
    }

    private static void newObject() {
        TapeChains x = new TapeChains();
        A.due("1: counts", counts(x), "0 0 0 0 0 0");
        A.due("1: spare(0)", x.spare(0), 0L);
        A.due("1: owner(63, 99)", x.owner(63, 99), -1);
        A.refuses("1: owner(0, 100)", ARGUMENT, () -> x.owner(0, 100));
        x.dump(0, 100);
        A.due("1: place(0, 98)", x.place(0, 98), 99);
        A.due("1: place(0, 99)", x.place(0, 99), 1001);
        TapeChains other = new TapeChains();
        A.due("1: another object's counts", counts(other), "0 0 0 0 0 0");
    }

    private static void begin() {
        TapeChains x = five();
        x.lose(1, true);
        x.lose(63, true);
        x.begin(1000);
        A.due("2: counts", counts(x), "0 0 0 0 0 0");
        A.due("2: lose(63, false)", x.lose(63, false), false);
        A.due("2: owner(0, 1)", x.owner(0, 1), -1);
        A.due("2: owner(0, 999)", x.owner(0, 999), -1);
        A.refuses("2: owner(0, 1000)", ARGUMENT, () -> x.owner(0, 1000));
        A.refuses("2: depth(0)", INDEX, () -> x.depth(0));
        A.due("2: dump(5, 500)", x.dump(5, 500), 0);
        A.due("2: chain(0, 1)", x.chain(0, 1), -1);
        x.begin(2);
        A.due("2: dump(1, 2)", x.dump(1, 2), 0);
        A.due("2: place(0, 1)", x.place(0, 1), 1001);
        A.refuses("2: owner(0, 2)", ARGUMENT, () -> x.owner(0, 2));
    }

    private static void beginRefuses() {
        TapeChains x = five();
        x.lose(2, true);
        for (int blocks : new int[] {LOW, -1, 0, 1, 1001, HIGH}) {
            A.refuses("2: begin(" + blocks + ")", ARGUMENT, () -> x.begin(blocks));
        }
        A.due("2: counts after refusals", counts(x), "5 6 27 1 3 1");
        A.due("2: place(4, 8) after refusals", x.place(4, 8), 5001);
    }

    private static void dump() {
        TapeChains x = new TapeChains();
        A.due("3: dump(9, 1)", x.dump(9, 1), 0);
        A.due("3: dump(0, 500)", x.dump(0, 500), 1);
        A.due("3: dump(9, 1)", x.dump(9, 1), 2);
        x.begin(1000);
        for (int d = 0; d < 300; d++) {
            A.due("3: dump " + d, x.dump(d % 10, 1 + d % 200), d);
        }
        A.refuses("3: dump 300", STATE, () -> x.dump(0, 1));
        A.refuses("3: dump 300 of level 10", ARGUMENT, () -> x.dump(10, 1));
        A.refuses("3: dump 300 of 0 blocks", ARGUMENT, () -> x.dump(0, 0));
        A.due("3: count(0)", x.count(0), 300);
        x.drop(1);
        A.due("3: dump 299 again", x.dump(0, 1), 299);
    }

    private static void dumpRefuses() {
        TapeChains x = new TapeChains();
        x.begin(3);
        x.dump(2, 126);
        for (int level : new int[] {LOW, -1, 10, HIGH}) {
            A.refuses("3: level " + level, ARGUMENT, () -> x.dump(level, 1));
        }
        for (int blocks : new int[] {LOW, -1, 0, 501, HIGH}) {
            A.refuses("3: blocks " + blocks, ARGUMENT, () -> x.dump(0, blocks));
        }
        A.refuses("3: 3 blocks where 2 are left", STATE, () -> x.dump(0, 3));
        A.refuses("3: 500 blocks where 2 are left", STATE, () -> x.dump(0, 500));
        A.due("3: counts after refusals", counts(x), "1 63 189 1 1 0");
        A.due("3: owner(63, 1) after refusals", x.owner(63, 1), -1);
        A.due("3: the last 2 blocks", x.dump(3, 2), 1);
        A.due("3: place(1, 1)", x.place(1, 1), 63002);
        A.refuses("3: no block is left", STATE, () -> x.dump(3, 1));
        A.due("3: counts when full", counts(x), "2 64 192 2 2 0");
    }

    private static void drop() {
        TapeChains x = five();
        x.lose(5, true);
        x.drop(0);
        A.due("4: counts after drop(0)", counts(x), "5 6 27 4 3 1");
        x.drop(3);
        A.due("4: counts after drop(3)", counts(x), "2 3 12 2 2 1");
        A.refuses("4: depth(2)", INDEX, () -> x.depth(2));
        A.due("4: owner(2, 1)", x.owner(2, 1), 1);
        A.due("4: owner(2, 2)", x.owner(2, 2), -1);
        A.due("4: spare(0)", x.spare(0), 7L);
        A.due("4: dump(4, 1)", x.dump(4, 1), 2);
        A.due("4: chain(2, 1)", x.chain(2, 1), 0);
        A.due("4: place(2, 0)", x.place(2, 0), 2002);
        x.drop(3);
        A.due("4: counts after all are gone", counts(x), "0 0 0 0 0 1");
        A.due("4: lose(5, false)", x.lose(5, false), true);
        A.due("4: dump(5, 1)", x.dump(5, 1), 0);
        A.due("4: chain(0, 1)", x.chain(0, 1), -1);
        A.due("4: place(0, 0)", x.place(0, 0), 1);
    }

    private static void dropRefuses() {
        TapeChains x = five();
        for (int n : new int[] {LOW, -1, 6, HIGH}) {
            A.refuses("4: drop(" + n + ")", ARGUMENT, () -> x.drop(n));
        }
        A.due("4: counts after refusals", counts(x), "5 6 27 5 3 0");
        TapeChains empty = new TapeChains();
        empty.drop(0);
        A.refuses("4: drop(1) of none", ARGUMENT, () -> empty.drop(1));
    }

    private static void chain() {
        TapeChains x = five();
        A.due("5: chain(4, 0)", x.chain(4, 0), 4);
        A.due("5: chain(4, 1)", x.chain(4, 1), 2);
        A.due("5: chain(4, 2)", x.chain(4, 2), 0);
        A.due("5: chain(4, 3)", x.chain(4, 3), -1);
        A.due("5: chain(4, HIGH)", x.chain(4, HIGH), -1);
        A.due("5: chain(0, 0)", x.chain(0, 0), 0);
        A.due("5: chain(0, 1)", x.chain(0, 1), -1);
        x.dump(5, 1);
        A.due("5: an equal level is no base", x.chain(5, 1), 2);
        x.dump(0, 1);
        A.due("5: level 0 has no base", x.chain(6, 1), -1);
        x.dump(1, 1);
        A.due("5: the latest lower one", x.chain(7, 1), 6);
        A.refuses("5: chain(4, -1)", ARGUMENT, () -> x.chain(4, -1));
        A.refuses("5: chain(4, LOW)", ARGUMENT, () -> x.chain(4, LOW));
        for (int dump : new int[] {LOW, -1, 8, 300, HIGH}) {
            A.refuses("5: chain(" + dump + ", 0)", INDEX, () -> x.chain(dump, 0));
            A.refuses("5: chain(" + dump + ", -1)", INDEX, () -> x.chain(dump, -1));
        }
    }

    private static void depth() {
        TapeChains x = new TapeChains();
        x.dump(9, 1);
        A.due("6: depth(0) without a base", x.depth(0), 1);
        for (int level = 0; level <= 9; level++) {
            x.dump(level, 1);
            A.due("6: depth at level " + level, x.depth(level + 1), level + 1);
        }
        A.due("6: chain(10, 9)", x.chain(10, 9), 1);
        A.due("6: chain(10, 10)", x.chain(10, 10), -1);
        x.dump(9, 1);
        A.due("6: depth(11)", x.depth(11), 10);
        x.dump(4, 1);
        A.due("6: depth(12)", x.depth(12), 5);
        for (int dump : new int[] {LOW, -1, 13, 300, HIGH}) {
            A.refuses("6: depth(" + dump + ")", INDEX, () -> x.depth(dump));
        }
    }

    private static void place() {
        TapeChains x = five();
        A.due("7: place(0, 0)", x.place(0, 0), 1);
        A.due("7: place(0, 3)", x.place(0, 3), 4);
        A.due("7: place(0, 4)", x.place(0, 4), 1001);
        A.due("7: place(1, 0)", x.place(1, 0), 1003);
        A.due("7: place(1, 2)", x.place(1, 2), 2001);
        A.due("7: place(4, 0)", x.place(4, 0), 3001);
        A.due("7: place(4, 8)", x.place(4, 8), 5001);
        for (int k : new int[] {LOW, -1, 3, HIGH}) {
            A.refuses("7: place(1, " + k + ")", ARGUMENT, () -> x.place(1, k));
        }
        for (int dump : new int[] {LOW, -1, 5, 300, HIGH}) {
            A.refuses("7: place(" + dump + ", 0)", INDEX, () -> x.place(dump, 0));
            A.refuses("7: place(" + dump + ", -1)", INDEX, () -> x.place(dump, -1));
        }
        x.begin(1000);
        x.dump(0, 500);
        x.dump(1, 500);
        A.due("7: place(1, 498)", x.place(1, 498), 999);
        A.due("7: place(1, 499)", x.place(1, 499), 1001);
    }

    private static void owner() {
        TapeChains x = five();
        int[][] tape = {
            {-1, 0, 0, 0, 0},
            {-1, 0, 0, 1, 1},
            {-1, 1, 2, 2, 3},
            {-1, 4, 4, 4, 4},
            {-1, 4, 4, 4, 4},
            {-1, 4, -1, -1, -1},
            {-1, -1, -1, -1, -1},
        };
        for (int v = 0; v < tape.length; v++) {
            for (int b = 0; b < tape[v].length; b++) {
                A.due("8: owner(" + v + ", " + b + ")", x.owner(v, b), tape[v][b]);
            }
        }
        A.due("8: owner(63, 4)", x.owner(63, 4), -1);
        for (int volume : new int[] {LOW, -1, 64, HIGH}) {
            A.refuses("8: owner(" + volume + ", 1)", ARGUMENT, () -> x.owner(volume, 1));
        }
        for (int block : new int[] {LOW, -1, 5, HIGH}) {
            A.refuses("8: owner(0, " + block + ")", ARGUMENT, () -> x.owner(0, block));
            A.refuses("8: owner(63, " + block + ")", ARGUMENT, () -> x.owner(63, block));
        }
    }

    private static void needs() {
        TapeChains x = five();
        long[] due = {0b11L, 0b111L, 0b111L, 0b111L, 0b111111L};
        for (int d = 0; d < due.length; d++) {
            A.due("9: needs(" + d + ")", x.needs(d), due[d]);
        }
        x.dump(0, 3);
        A.due("9: a dump that fills its volume", x.needs(5), 0b100000L);
        x.dump(0, 4);
        A.due("9: a dump of one volume", x.needs(6), 0b1000000L);
        x.dump(1, 5);
        A.due("9: a chain of two", x.needs(7), 0b111000000L);
        for (int dump : new int[] {LOW, -1, 8, 300, HIGH}) {
            A.refuses("9: needs(" + dump + ")", INDEX, () -> x.needs(dump));
        }
        x.begin(2);
        x.dump(0, 63);
        x.dump(0, 1);
        A.due("9: volumes 0 to 62", x.needs(0), HIGH_BIT - 1);
        A.due("9: volume 63", x.needs(1), HIGH_BIT);
    }

    private static void lose() {
        TapeChains x = new TapeChains();
        for (int volume : new int[] {0, 31, 32, 63}) {
            String name = "10: lose(" + volume + ", ";
            A.due(name + "false) at first", x.lose(volume, false), false);
            A.due(name + "true)", x.lose(volume, true), false);
            A.due(name + "true) again", x.lose(volume, true), true);
            A.due("10: one is lost", x.count(5), 1);
            A.due(name + "false)", x.lose(volume, false), true);
            A.due(name + "false) again", x.lose(volume, false), false);
            A.due("10: none is lost", x.count(5), 0);
        }
        x.lose(7, true);
        for (int volume : new int[] {LOW, -1, 64, 71, HIGH}) {
            A.refuses("10: lose(" + volume + ", true)", ARGUMENT, () -> x.lose(volume, true));
            A.refuses("10: lose(" + volume + ", false)", ARGUMENT, () -> x.lose(volume, false));
        }
        A.due("10: one is lost after refusals", x.count(5), 1);
        A.due("10: it is the same one", x.lose(7, true), true);
    }

    private static String goods(TapeChains x) {
        StringBuilder all = new StringBuilder();
        for (int d = 0; d < x.count(0); d++) {
            all.append(x.good(d) ? 'g' : '-');
        }
        return all.toString();
    }

    private static void good() {
        TapeChains x = five();
        A.due("11: none lost", goods(x), "ggggg");
        x.lose(6, true);
        A.due("11: an unwritten one lost", goods(x), "ggggg");
        x.lose(5, true);
        A.due("11: 5 lost", goods(x), "gggg-");
        x.lose(2, true);
        A.due("11: 5 and 2 lost", goods(x), "g----");
        x.lose(0, true);
        A.due("11: 5, 2 and 0 lost", goods(x), "-----");
        x.dump(0, 3);
        A.due("11: a new one on a lost volume", goods(x), "------");
        x.lose(5, false);
        A.due("11: 5 is there again", goods(x), "-----g");
        x.dump(1, 1);
        A.due("11: written on 6, lost before", goods(x), "-----g-");
        for (int dump : new int[] {LOW, -1, 7, 300, HIGH}) {
            A.refuses("11: good(" + dump + ")", INDEX, () -> x.good(dump));
        }
    }

    private static void latest() {
        TapeChains x = five();
        A.due("12: latest(4), none lost", x.latest(4), 4);
        A.due("12: latest(2), none lost", x.latest(2), 2);
        x.lose(4, true);
        A.due("12: latest(4), 4 lost", x.latest(4), 3);
        A.due("12: latest(0), 4 lost", x.latest(0), 0);
        x.lose(2, true);
        A.due("12: latest(4), 2 lost", x.latest(4), 0);
        x.lose(1, true);
        A.due("12: latest(4), 1 lost", x.latest(4), -1);
        A.due("12: latest(0), 1 lost", x.latest(0), -1);
        x.dump(0, 1);
        A.due("12: latest(5)", x.latest(5), 5);
        A.due("12: a later good one does not count", x.latest(4), -1);
        for (int dump : new int[] {LOW, -1, 6, 300, HIGH}) {
            A.refuses("12: latest(" + dump + ")", INDEX, () -> x.latest(dump));
        }
    }

    private static void spare() {
        TapeChains x = five();
        A.due("13: spare(0)", x.spare(0), 0b111111L);
        A.due("13: spare(1)", x.spare(1), 0L);
        x.dump(0, 4);
        A.due("13: spare(1) behind a full dump", x.spare(1), 0b11111L);
        x.dump(1, 4);
        A.due("13: spare(1) of a chain", x.spare(1), 0b11111L);
        A.due("13: spare(2)", x.spare(2), 0b11111L);
        A.due("13: spare(3)", x.spare(3), 0L);
        A.due("13: spare(7)", x.spare(7), 0L);
        A.due("13: spare(8)", x.spare(8), 0L);
        A.due("13: spare(HIGH)", x.spare(HIGH), 0L);
        x.lose(0, true);
        x.lose(40, true);
        A.due("13: spare does not ask for lost ones", x.spare(2), 0b11111L);
        A.refuses("13: spare(-1)", ARGUMENT, () -> x.spare(-1));
        A.refuses("13: spare(LOW)", ARGUMENT, () -> x.spare(LOW));
        x.begin(2);
        A.due("13: spare(0) of none", x.spare(0), 0L);
        A.due("13: spare(HIGH) of none", x.spare(HIGH), 0L);
        x.dump(0, 63);
        x.dump(0, 1);
        A.due("13: spare(0) of all", x.spare(0), -1L);
        A.due("13: spare(1) of all", x.spare(1), HIGH_BIT - 1);
    }

    private static void count() {
        TapeChains x = five();
        A.due("14: counts", counts(x), "5 6 27 5 3 0");
        x.lose(5, true);
        x.lose(63, true);
        A.due("14: counts, 5 and 63 lost", counts(x), "5 6 27 4 3 2");
        x.dump(0, 3);
        A.due("14: counts, volume 5 full", counts(x), "6 6 30 4 3 2");
        x.dump(0, 1);
        A.due("14: counts, volume 6 begun", counts(x), "7 7 32 5 3 2");
        x.drop(1);
        A.due("14: counts, volume 6 not begun", counts(x), "6 6 30 4 3 2");
        for (int what : new int[] {LOW, -1, 6, HIGH}) {
            A.refuses("14: count(" + what + ")", ARGUMENT, () -> x.count(what));
        }
    }
}
