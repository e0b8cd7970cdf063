import java.util.function.Supplier;

/**
 * Each sentence of the document that names a boundary case in which the call is answered; those
 * in which it is refused are in RefusalsTest.
 */
public final class BoundariesTest {
    private static final int HIGH = Integer.MAX_VALUE;
    private static final long ALL = -1L;
    private static final long LAST = 1L << 63;
    private static final int[] EDGE_VOLUMES = {0, 1, 31, 32, 62, 63};

    private static final Answers A = new Answers();

    public static void main(String[] args) {
        newObject();
        begin();
        dump();
        drop();
        chain();
        place();
        owner();
        needs();
        lose();
        goodAndLatest();
        spare();
        count();
        theCalls511And512AreAnswered();
        A.end();
    }

    private static void newObject() {
        aNewObjectIsAsBegin100LeavesIt();
        objectsShareNothing();
    }

    private static void begin() {
        beginTakes2To1000();
        beginLeavesNoDumps();
        beginLeavesNoneLost();
        beginTakesTheNewSizeAlone();
    }

    private static void dump() {
        dumpsAreNumberedFrom0To299();
        levelsAre0To9();
        blocksAre1To500();
        volumesOfEverySizeHoldWhatTheyHave();
        whatIsFullTakesMoreAfterDrop();
        whatIsFullTakesMoreAfterBegin();
    }

    private static void drop() {
        dropOf0ChangesNothing();
        dropOfAllLeavesNoDumps();
        dropIsAsIfTheyHadNeverBeen();
        dropTakesLabelsToo();
        dropLeavesLostVolumes();
    }

    private static void chain() {
        level0HasNoBase();
        noLowerLevelIsNoBase();
        theBaseIsTheLatestOfALowerLevel();
        chainEndsWithMinus1();
        chainsAre1To10Long();
    }

    private static void place() {
        block0IsTheLabel();
        aFullVolumeIsFollowedByTheNext();
        aDumpGoesOverManyVolumes();
        theLastPlaceIsVolume63();
    }

    private static void owner() {
        ownerOfALabelIsNone();
        ownerOfWhatIsNotWrittenIsNone();
        ownersChangeInsideAVolume();
    }

    private static void needs() {
        needsEachVolumeByItsBit();
        needsAllVolumes();
        needsNotWhatLiesBetween();
        needsEndsWithTheLastBlock();
    }

    private static void lose() {
        loseTellsWhetherItWas();
        volumesNotWrittenMayBeLost();
    }

    private static void goodAndLatest() {
        goodUnlessANeededOneIsLost();
        latestIsItselfIfGood();
        latestIsNotBehind();
        latestIsMinus1IfNoneIsGood();
    }

    private static void spare() {
        spareOf0IsAllThatIsWritten();
        spareOfFewerIsOfAll();
        spareHoldsTheWrittenAlone();
        spareAsksNotForLost();
    }

    private static void count() {
        countsOfNothing();
        countsOfTheMost();
        countOfGoodOnesFrom0ToAll();
        countOfTheLongestChainIsNotTheLatest();
        countOfLostFrom0To64();
    }

    private static TapeChains begun(int size, int... levelsAndBlocks) {
        TapeChains x = new TapeChains();
        x.begin(size);
        for (int i = 0; i < levelsAndBlocks.length; i += 2) {
            x.dump(levelsAndBlocks[i], levelsAndBlocks[i + 1]);
        }
        return x;
    }

    private static void same(String sentence, Supplier<TapeChains> got, Supplier<TapeChains> due) {
        A.due(sentence + ", differs", new Picture(got).differsFrom(new Picture(due)), "");
    }

    private static String counts(TapeChains x) {
        StringBuilder all = new StringBuilder();
        for (int what = 0; what <= 5; what++) {
            all.append(x.count(what)).append(' ');
        }
        return all.toString().trim();
    }

    private static void aNewObjectIsAsBegin100LeavesIt() {
        String sentence = "1: as begin(100) leaves it";
        same(sentence, TapeChains::new, () -> begun(100));
        for (Scene scene : Scene.ALL) {
            same(sentence + " [" + scene.name() + "]", () -> {
                TapeChains x = scene.made();
                x.begin(100);
                return x;
            }, TapeChains::new);
        }
        TapeChains x = new TapeChains();
        A.due(sentence + ": the last block", x.owner(0, 99), -1);
        A.refuses(sentence + ": one block more", IllegalArgumentException.class,
            () -> x.owner(0, 100));
        A.due(sentence + ": dump", x.dump(9, 100), 0);
        A.due(sentence + ": the end of volume 0", x.place(0, 98), 99);
        A.due(sentence + ": the start of volume 1", x.place(0, 99), 1001);
    }

    private static void objectsShareNothing() {
        same("1: a new object beside others", () -> {
            TapeChains x = new TapeChains();
            Scene.FIVE.made();
            return x;
        }, TapeChains::new);
    }

    private static void beginTakes2To1000() {
        for (int size : new int[] {2, 3, 999, 1000}) {
            String sentence = "2: 2 to 1000, here " + size;
            TapeChains x = begun(size);
            A.due(sentence + ": the last block", x.owner(63, size - 1), -1);
            A.refuses(sentence + ": one block more", IllegalArgumentException.class,
                () -> x.owner(63, size));
        }
    }

    private static void beginLeavesNoDumps() {
        for (Scene scene : Scene.ALL) {
            String sentence = "2: no DUMPS [" + scene.name() + "]";
            TapeChains x = scene.made();
            x.begin(7);
            A.due(sentence, counts(x), "0 0 0 0 0 0");
            A.due(sentence + ": the next", x.dump(9, 1), 0);
            A.due(sentence + ": its base", x.chain(0, 1), -1);
            A.due(sentence + ": its place", x.place(0, 0), 1);
        }
    }

    private static void beginLeavesNoneLost() {
        TapeChains x = Scene.LOST.made();
        x.begin(2);
        for (int volume : EDGE_VOLUMES) {
            A.due("2: none LOST, here " + volume, x.lose(volume, false), false);
        }
        A.due("2: none LOST", x.count(5), 0);
    }

    private static void beginTakesTheNewSizeAlone() {
        same("2: VOLUMES of so many BLOCKS, fewer than before", () -> {
            TapeChains x = begun(1000, 0, 500);
            x.begin(2);
            return x;
        }, () -> begun(2));
        same("2: VOLUMES of so many BLOCKS, more than before", () -> {
            TapeChains x = begun(2, 0, 64);
            x.begin(1000);
            return x;
        }, () -> begun(1000));
    }

    private static void dumpsAreNumberedFrom0To299() {
        TapeChains x = begun(2);
        A.due("3: the first number", x.dump(0, 1), 0);
        x.begin(1000);
        for (int d = 0; d < 300; d++) {
            A.due("3: its number", x.dump(d % 10, 1 + d % 200), d);
        }
        A.due("3: 300 are there", x.count(0), 300);
        A.due("3: the last of 300 is there", x.chain(299, 0), 299);
    }

    private static void levelsAre0To9() {
        TapeChains x = new TapeChains();
        for (int level = 0; level <= 9; level++) {
            A.due("3: LEVEL " + level, x.dump(level, 1), level);
        }
    }

    private static void blocksAre1To500() {
        TapeChains x = new TapeChains();
        A.due("3: 1 BLOCK", x.dump(0, 1), 0);
        A.due("3: 500 BLOCKS", x.dump(0, 500), 1);
        A.due("3: 1 and 500 BLOCKS and 6 LABELS", x.count(2), 507);
        A.due("3: the last of 500 BLOCKS", x.place(1, 499), 5006);
    }

    /** Volumes are filled to the last block, and not one block more. */
    private static void volumesOfEverySizeHoldWhatTheyHave() {
        for (int size = 2; size <= 1000; size++) {
            String sentence = "3: 64 VOLUMES of " + size;
            TapeChains x = begun(size);
            int left = 64 * (size - 1);
            for (; left > 500; left -= 500) {
                x.dump(0, 500);
            }
            int tooMany = left + 1;
            if (tooMany <= 500) {
                A.refuses(sentence + " are too few", IllegalStateException.class,
                    () -> x.dump(0, tooMany));
            }
            int last = x.dump(0, left);
            A.due(sentence + ": the last BLOCK", x.place(last, left - 1), 63000 + size - 1);
            A.due(sentence + ": its DUMP", x.owner(63, size - 1), last);
            A.due(sentence + " are written", x.count(1), 64);
            A.due(sentence + ": BLOCKS", x.count(2), 64 * size);
            A.refuses(sentence + " are full", IllegalStateException.class, () -> x.dump(0, 1));
        }
    }

    private static void whatIsFullTakesMoreAfterDrop() {
        TapeChains most = Scene.MOST.made();
        most.drop(1);
        A.due("3: 299 are there", most.dump(0, 1), 299);
        TapeChains full = Scene.FULL.made();
        full.drop(1);
        A.due("3: one block is there", full.dump(5, 1), 1);
        A.due("3: it lies at the end", full.place(1, 0), 63001);
    }

    private static void whatIsFullTakesMoreAfterBegin() {
        for (Scene scene : new Scene[] {Scene.MOST, Scene.FULL, Scene.MOST_AND_FULL}) {
            TapeChains x = scene.made();
            x.begin(scene.size());
            A.due("3: begun again [" + scene.name() + "]", x.dump(0, 1), 0);
        }
    }

    private static void dropOf0ChangesNothing() {
        for (Scene scene : Scene.ALL) {
            same("4: drop(0) [" + scene.name() + "]", () -> {
                TapeChains x = scene.made();
                x.drop(0);
                return x;
            }, scene::made);
        }
    }

    private static void dropOfAllLeavesNoDumps() {
        for (Scene scene : Scene.ALL) {
            same("4: drop of all [" + scene.name() + "]", () -> {
                TapeChains x = scene.made();
                x.drop(scene.count());
                return x;
            }, () -> {
                TapeChains x = begun(scene.size());
                for (int volume : scene.lost()) {
                    x.lose(volume, true);
                }
                return x;
            });
        }
    }

    private static void dropIsAsIfTheyHadNeverBeen() {
        int[] three = {0, 6, 5, 3, 3, 2};
        for (int[] gone : new int[][] {{9, 1}, {0, 1}, {3, 2}, {4, 9}, {0, 245}}) {
            same("4: as if it had never been, " + gone[0] + " of " + gone[1], () -> {
                TapeChains x = begun(5, three);
                A.due("4: the one to go", x.dump(gone[0], gone[1]), 3);
                x.drop(1);
                return x;
            }, () -> begun(5, three));
        }
        same("4: as if they had never been, others in their place", () -> {
            TapeChains x = begun(5, 0, 6, 5, 3, 0, 2, 1, 30);
            x.drop(3);
            x.dump(4, 3);
            x.dump(6, 1);
            return x;
        }, () -> begun(5, 0, 6, 4, 3, 6, 1));
    }

    private static void dropTakesLabelsToo() {
        TapeChains x = begun(5, 0, 4, 1, 1);
        A.due("4: the LABEL of volume 1", x.count(2), 7);
        x.drop(1);
        A.due("4: no LABEL without what comes behind it", x.count(2), 5);
        A.due("4: volume 1 is not written", x.count(1), 1);
        A.due("4: volume 1 is not spare", x.spare(0), 1L);
        A.due("4: what was there is gone", x.owner(1, 1), -1);
    }

    private static void dropLeavesLostVolumes() {
        TapeChains x = Scene.LOST.made();
        x.drop(1);
        A.due("4: LOST is not of the DUMPS", x.count(5), 64);
        x.dump(0, 1);
        A.due("4: a new one there is not GOOD", x.good(0), false);
    }

    private static void level0HasNoBase() {
        TapeChains x = begun(5, 0, 1, 0, 1, 5, 1, 0, 1);
        for (int dump : new int[] {0, 1, 3}) {
            A.due("5: none of LEVEL 0, here " + dump, x.chain(dump, 1), -1);
            A.due("6: none of LEVEL 0, here " + dump, x.depth(dump), 1);
        }
    }

    private static void noLowerLevelIsNoBase() {
        TapeChains x = begun(5, 4, 1, 9, 1, 4, 1, 3, 1, 1, 1);
        for (int dump : new int[] {0, 2, 3, 4}) {
            A.due("5: if there is none, here " + dump, x.chain(dump, 1), -1);
            A.due("6: if there is none, here " + dump, x.depth(dump), 1);
        }
        A.due("5: there is one of a lower LEVEL", x.chain(1, 1), 0);
    }

    private static void theBaseIsTheLatestOfALowerLevel() {
        TapeChains x = begun(5, 0, 1, 1, 1, 0, 1, 3, 1, 3, 1, 2, 1, 9, 1, 3, 1);
        int[] due = {-1, 0, -1, 2, 2, 2, 5, 5};
        for (int dump = 0; dump < due.length; dump++) {
            A.due("5: the BASE of " + dump, x.chain(dump, 1), due[dump]);
        }
    }

    private static void chainEndsWithMinus1() {
        TapeChains x = begun(5, 0, 1, 5, 1, 7, 1, 6, 1);
        int[] due = {3, 1, 0, -1, -1};
        for (int k = 0; k < due.length; k++) {
            A.due("5: the k-th one, here " + k, x.chain(3, k), due[k]);
        }
        for (int k : new int[] {9, 10, 299, 300, HIGH - 1, HIGH}) {
            A.due("5: it has not so many, here " + k, x.chain(3, k), -1);
            A.due("5: a chain of one has not so many, here " + k, x.chain(0, k), -1);
        }
    }

    private static void chainsAre1To10Long() {
        TapeChains x = new TapeChains();
        for (int level = 9; level >= 0; level--) {
            int dump = x.dump(level, 1);
            A.due("6: LEVELS that fall, here " + level, x.depth(dump), 1);
        }
        for (int level = 1; level <= 9; level++) {
            int dump = x.dump(level, 1);
            A.due("6: LEVELS that rise, here " + level, x.depth(dump), level + 1);
        }
        A.due("5: the last one of ten", x.chain(18, 9), 9);
        A.due("5: no more than ten", x.chain(18, 10), -1);
    }

    private static void block0IsTheLabel() {
        for (int size : new int[] {2, 3, 100, 1000}) {
            TapeChains x = begun(size, 9, 1);
            A.due("7: behind the LABEL, of " + size, x.place(0, 0), 1);
        }
    }

    private static void aFullVolumeIsFollowedByTheNext() {
        TapeChains x = begun(5, 0, 3, 1, 1, 2, 1, 3, 4, 4, 5);
        A.due("7: the last block of volume 0", x.place(1, 0), 4);
        A.due("7: the next one, behind a full volume", x.place(2, 0), 1001);
        A.due("7: it fills volume 1", x.place(3, 2), 1004);
        A.due("7: and goes on", x.place(3, 3), 2001);
        A.due("7: again it fills one", x.place(4, 2), 2004);
        A.due("7: and goes on again", x.place(4, 3), 3001);
        A.due("7: its last block", x.place(4, 4), 3002);
    }

    private static void aDumpGoesOverManyVolumes() {
        TapeChains x = begun(2, 0, 1, 0, 63);
        for (int k = 0; k < 63; k++) {
            A.due("7: one block on each volume, here " + k, x.place(1, k), 1000 * (k + 1) + 1);
        }
    }

    private static void theLastPlaceIsVolume63() {
        TapeChains x = begun(1000);
        for (int d = 0; d < 127; d++) {
            x.dump(0, 500);
        }
        x.dump(0, 436);
        A.due("7: the very last block", x.place(127, 435), 63999);
        A.due("8: its owner", x.owner(63, 999), 127);
        A.due("14: BLOCKS with LABELS", x.count(2), 64000);
    }

    private static void ownerOfALabelIsNone() {
        for (Scene scene : Scene.ALL) {
            TapeChains x = scene.made();
            for (int volume : EDGE_VOLUMES) {
                A.due("8: a LABEL [" + scene.name() + "] of " + volume, x.owner(volume, 0), -1);
            }
        }
    }

    private static void ownerOfWhatIsNotWrittenIsNone() {
        TapeChains none = begun(2);
        A.due("8: nothing at all is written", none.owner(0, 1), -1);
        TapeChains x = begun(5, 0, 4, 1, 2);
        A.due("8: the last that is written", x.owner(1, 2), 1);
        A.due("8: nothing is written behind it", x.owner(1, 3), -1);
        A.due("8: nothing is written at the end", x.owner(1, 4), -1);
        A.due("8: nothing is written on the next", x.owner(2, 1), -1);
        A.due("8: nothing is written on the last", x.owner(63, 4), -1);
    }

    private static void ownersChangeInsideAVolume() {
        TapeChains x = begun(6, 0, 1, 1, 1, 2, 2, 3, 2);
        int[] due = {-1, 0, 1, 2, 2, 3};
        for (int block = 0; block < due.length; block++) {
            A.due("8: volume 0, block " + block, x.owner(0, block), due[block]);
        }
        A.due("8: volume 1, block 1", x.owner(1, 1), 3);
        x.lose(1, true);
        A.due("8: LOST, and still its block", x.owner(1, 1), 3);
    }

    private static void needsEachVolumeByItsBit() {
        TapeChains x = begun(2);
        for (int volume = 0; volume < 64; volume++) {
            x.dump(0, 1);
            A.due("9: bit " + volume, x.needs(volume), 1L << volume);
        }
    }

    private static void needsAllVolumes() {
        A.due("9: one on all", begun(2, 0, 64).needs(0), ALL);
        A.due("9: all but the last", begun(2, 0, 63).needs(0), ~LAST);
        A.due("9: all by its chain", begun(2, 0, 63, 1, 1).needs(1), ALL);
        A.due("9: the last alone", begun(2, 0, 63, 0, 1).needs(1), LAST);
    }

    private static void needsNotWhatLiesBetween() {
        TapeChains x = begun(2, 0, 1, 5, 2, 3, 1, 9, 60);
        A.due("9: volumes 0 and 3", x.needs(2), 0b1001L);
        A.due("9: its chain's and its own", x.needs(3), ~0b110L);
    }

    private static void needsEndsWithTheLastBlock() {
        TapeChains x = begun(5, 0, 4, 0, 4, 0, 5, 0, 3, 0, 1);
        long[] due = {0b1L, 0b10L, 0b1100L, 0b1000L, 0b10000L};
        for (int dump = 0; dump < due.length; dump++) {
            A.due("9: BLOCKS that fill a volume, here " + dump, x.needs(dump), due[dump]);
        }
    }

    private static void loseTellsWhetherItWas() {
        TapeChains x = new TapeChains();
        for (int volume : EDGE_VOLUMES) {
            String sentence = "10: whether it was, here " + volume + ": ";
            A.due(sentence + "never", x.lose(volume, false), false);
            A.due(sentence + "still not", x.lose(volume, true), false);
            A.due(sentence + "it was", x.lose(volume, true), true);
            A.due(sentence + "and stayed", x.lose(volume, false), true);
            A.due(sentence + "no more", x.lose(volume, false), false);
        }
        for (int volume : EDGE_VOLUMES) {
            A.due("10: each by itself, " + volume, x.lose(volume, true), false);
        }
    }

    private static void volumesNotWrittenMayBeLost() {
        TapeChains x = begun(2, 0, 1);
        A.due("10: not written yet", x.lose(1, true), false);
        A.due("11: nobody needs it", x.good(0), true);
        x.dump(0, 1);
        A.due("11: written on a LOST one", x.good(1), false);
        A.due("10: it is still LOST", x.lose(1, false), true);
        A.due("11: it is there again", x.good(1), true);
    }

    private static void goodUnlessANeededOneIsLost() {
        TapeChains x = begun(2, 0, 1, 5, 2, 3, 60, 9, 1);
        boolean[] whole = {true, true, true, true};
        goods(x, "none is LOST", whole);
        lostAlone(x, 0, false, false, false, false);
        lostAlone(x, 1, true, false, true, true);
        lostAlone(x, 2, true, false, true, true);
        lostAlone(x, 3, true, true, false, false);
        lostAlone(x, 31, true, true, false, false);
        lostAlone(x, 32, true, true, false, false);
        lostAlone(x, 62, true, true, false, false);
        lostAlone(x, 63, true, true, true, false);
        goods(x, "none is LOST any more", whole);
    }

    private static void lostAlone(TapeChains x, int volume, boolean... due) {
        x.lose(volume, true);
        goods(x, "LOST is " + volume, due);
        x.lose(volume, false);
    }

    private static void goods(TapeChains x, String sentence, boolean... due) {
        for (int dump = 0; dump < due.length; dump++) {
            A.due("11: " + sentence + ", GOOD " + dump, x.good(dump), due[dump]);
        }
    }

    private static void latestIsItselfIfGood() {
        TapeChains x = begun(2, 0, 1, 0, 1, 0, 1);
        for (int dump = 0; dump < 3; dump++) {
            A.due("12: itself, " + dump, x.latest(dump), dump);
        }
    }

    private static void latestIsNotBehind() {
        TapeChains x = begun(2, 0, 1, 0, 1, 0, 1, 0, 1);
        x.lose(1, true);
        x.lose(2, true);
        int[] due = {0, 0, 0, 3};
        for (int dump = 0; dump < due.length; dump++) {
            A.due("12: not behind " + dump, x.latest(dump), due[dump]);
        }
    }

    private static void latestIsMinus1IfNoneIsGood() {
        TapeChains x = begun(2, 0, 1, 1, 1, 0, 1);
        x.lose(0, true);
        A.due("12: -1 for the first", x.latest(0), -1);
        A.due("12: -1 for one behind it", x.latest(1), -1);
        A.due("12: a GOOD one behind both", x.latest(2), 2);
        TapeChains most = Scene.MOST.made();
        A.due("12: -1 for one whose chain begins on volume 0", most.latest(49), -1);
        A.due("12: the first on volume 1 alone", most.latest(50), 50);
    }

    private static void spareOf0IsAllThatIsWritten() {
        A.due("13: nothing is written", begun(2).spare(0), 0L);
        A.due("13: the first", begun(2, 0, 1).spare(0), 1L);
        A.due("13: 63 of them", begun(2, 0, 63).spare(0), ~LAST);
        A.due("13: all of them", begun(2, 0, 64).spare(0), ALL);
    }

    private static void spareOfFewerIsOfAll() {
        TapeChains none = begun(2);
        TapeChains x = begun(2, 0, 1, 0, 2, 0, 60);
        long[] due = {~LAST, 0b111L, 0b1L, 0L, 0L, 0L};
        for (int n = 0; n < due.length; n++) {
            A.due("13: of the latest " + n, x.spare(n), due[n]);
            A.due("13: of none, the latest " + n, none.spare(n), 0L);
        }
        for (int n : new int[] {300, 301, HIGH - 1, HIGH}) {
            A.due("13: of all, as there are fewer than " + n, x.spare(n), 0L);
            A.due("13: of none, as there are fewer than " + n, none.spare(n), 0L);
        }
    }

    private static void spareHoldsTheWrittenAlone() {
        TapeChains x = begun(5, 0, 4);
        A.due("13: volume 0 is full", x.spare(0), 0b1L);
        x.dump(0, 1);
        A.due("13: volume 1 is written", x.spare(0), 0b11L);
        A.due("13: volume 0 is spare", x.spare(1), 0b1L);
        x.dump(1, 60);
        A.due("13: its chain's are not spare", x.spare(1), 0b1L);
    }

    private static void spareAsksNotForLost() {
        TapeChains x = begun(2, 0, 1, 0, 1, 0, 1);
        x.lose(0, true);
        x.lose(2, true);
        x.lose(3, true);
        A.due("13: LOST ones that are written", x.spare(0), 0b111L);
        A.due("13: one that is LOST is needed", x.spare(1), 0b11L);
    }

    private static void countsOfNothing() {
        A.due("14: a new object", counts(new TapeChains()), "0 0 0 0 0 0");
        A.due("14: one block", counts(begun(2, 9, 1)), "1 1 2 1 1 0");
    }

    private static void countsOfTheMost() {
        A.due("14: 300 on full tapes", counts(Scene.MOST_AND_FULL.made()), "300 64 384 300 2 0");
        A.due("14: one on all", counts(begun(2, 0, 64)), "1 64 128 1 1 0");
        A.due("14: a volume just full", counts(begun(5, 0, 4)), "1 1 5 1 1 0");
        A.due("14: a volume just begun", counts(begun(5, 0, 5)), "1 2 7 1 1 0");
    }

    private static void countOfGoodOnesFrom0ToAll() {
        TapeChains x = begun(2, 0, 1, 0, 1, 1, 1);
        int[] due = {2, 0, 0};
        A.due("14: all are GOOD", x.count(3), 3);
        for (int volume = 0; volume < due.length; volume++) {
            x.lose(volume, true);
            A.due("14: GOOD ones with LOST " + volume, x.count(3), due[volume]);
        }
    }

    private static void countOfTheLongestChainIsNotTheLatest() {
        TapeChains x = begun(5, 9, 1);
        A.due("14: a chain of one", x.count(4), 1);
        for (int level = 0; level <= 9; level++) {
            x.dump(level, 1);
            A.due("14: the longest up to level " + level, x.count(4), level + 1);
        }
        x.dump(0, 1);
        A.due("14: an earlier one is the longest", x.count(4), 10);
        x.drop(2);
        A.due("14: the longest is gone", x.count(4), 9);
    }

    private static void countOfLostFrom0To64() {
        TapeChains x = new TapeChains();
        for (int volume = 0; volume < 64; volume++) {
            x.lose(volume, true);
            x.lose(volume, true);
            A.due("14: LOST up to " + volume, x.count(5), volume + 1);
        }
        x.lose(63, false);
        A.due("14: one is there again", x.count(5), 63);
    }

    private static void theCalls511And512AreAnswered() {
        TapeChains x = Scene.MOST.made();
        int calls = 1 + 300 + 2;
        for (; calls < 510; calls++) {
            x.count(3);
        }
        A.due("call 511", x.depth(299), 10);
        A.due("call 512", x.place(299, 99), 25175);
    }
}
