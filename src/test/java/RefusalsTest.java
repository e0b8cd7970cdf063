import java.util.ArrayList;
import java.util.LinkedHashMap;
import java.util.List;
import java.util.Map;
import java.util.function.Consumer;
import java.util.function.Function;

/**
 * Each sentence of the document that names a refused call, in states from empty to full: it
 * throws the exception that is first in the heading, and changes nothing.
 */
public final class RefusalsTest {
    private static final Class<IllegalArgumentException> ARGUMENT = IllegalArgumentException.class;
    private static final Class<IllegalStateException> STATE = IllegalStateException.class;
    private static final Class<IndexOutOfBoundsException> INDEX = IndexOutOfBoundsException.class;
    private static final int LOW = Integer.MIN_VALUE;
    private static final int HIGH = Integer.MAX_VALUE;
    private static final int[] NO_LEVELS = {LOW, -1, 10, HIGH};
    private static final int[] NO_BLOCK_COUNTS = {LOW, -1, 0, 501, HIGH};
    private static final int[] NO_VOLUMES = {LOW, -1, 64, HIGH};
    private static final int[] BELOW_0 = {LOW, -1};

    private static final Answers A = new Answers();
    private static final Map<Scene, Picture> BEFORE = new LinkedHashMap<>();

    private record Call(String name, Consumer<TapeChains> run) {}

    public static void main(String[] args) {
        for (Scene scene : Scene.ALL) {
            BEFORE.put(scene, new Picture(scene::made));
        }
        for (Scene scene : Scene.ALL) {
            begin(scene);
            dump(scene);
            drop(scene);
            chain(scene);
            place(scene);
            owner(scene);
            lose(scene);
            spare(scene);
            count(scene);
            noSuchDump("6: depth", scene, d -> x -> x.depth(d));
            noSuchDump("9: needs", scene, d -> x -> x.needs(d));
            noSuchDump("11: good", scene, d -> x -> x.good(d));
            noSuchDump("12: latest", scene, d -> x -> x.latest(d));
        }
        thereAre300();
        volumesAreTooFew();
        A.end();
    }

    /** Each call by itself, as one could undo what another has changed. */
    private static void refused(String sentence, Scene scene, Class<? extends RuntimeException> due,
            List<Call> calls) {
        for (Call call : calls) {
            String where = sentence + " [" + scene.name() + "] " + call.name();
            Picture after = new Picture(() -> {
                TapeChains x = scene.made();
                A.refuses(where, due, () -> call.run().accept(x));
                return x;
            });
            A.due(where + " changes", after.differsFrom(BEFORE.get(scene)), "");
        }
    }

    private static List<Call> each(String name, int[] values,
            Function<Integer, Consumer<TapeChains>> call) {
        List<Call> calls = new ArrayList<>();
        for (int value : values) {
            calls.add(new Call(name + "(" + value + ")", call.apply(value)));
        }
        return calls;
    }

    /** The first number behind the last dump, the next one, and such as are far off. */
    private static int[] noDumps(Scene scene) {
        return new int[] {LOW, -1, scene.count(), scene.count() + 1, 301, HIGH};
    }

    private static void noSuchDump(String call, Scene scene,
            Function<Integer, Consumer<TapeChains>> ask) {
        refused(call + ": there is no such DUMP", scene, INDEX, each("", noDumps(scene), ask));
    }

    private static void begin(Scene scene) {
        refused("2: begin: not 2 to 1000", scene, ARGUMENT,
            each("begin", new int[] {LOW, -1, 0, 1, 1001, HIGH}, b -> x -> x.begin(b)));
    }

    private static void dump(Scene scene) {
        refused("3: dump: level", scene, ARGUMENT,
            each("level ", NO_LEVELS, level -> x -> x.dump(level, 1)));
        refused("3: dump: blocks", scene, ARGUMENT,
            each("blocks ", NO_BLOCK_COUNTS, blocks -> x -> x.dump(9, blocks)));
        refused("3: dump: level and blocks", scene, ARGUMENT,
            each("level and blocks ", new int[] {LOW, -1, 501, HIGH}, n -> x -> x.dump(n, n)));
    }

    private static void thereAre300() {
        for (Scene scene : List.of(Scene.MOST, Scene.MOST_AND_FULL)) {
            refused("3: dump: there are 300", scene, STATE,
                each("blocks ", new int[] {1, 2, 500}, blocks -> x -> x.dump(0, blocks)));
            refused("3: dump: there are 300", scene, STATE,
                each("level ", new int[] {0, 1, 9}, level -> x -> x.dump(level, 1)));
            argumentsComeFirst("3: dump: there are 300, and arguments", scene);
        }
    }

    private static void volumesAreTooFew() {
        for (Scene scene : List.of(Scene.ONE_LEFT, Scene.FULL, Scene.MOST_AND_FULL)) {
            refused("3: dump: 64 VOLUMES are too few", scene, STATE,
                each("blocks ", new int[] {2, 3, 499, 500}, blocks -> x -> x.dump(0, blocks)));
            argumentsComeFirst("3: dump: 64 VOLUMES are too few, and arguments", scene);
        }
        refused("3: dump: 64 VOLUMES are too few for one more block", Scene.FULL, STATE,
            each("level ", new int[] {0, 1, 9}, level -> x -> x.dump(level, 1)));
        refused("3: dump: 64 VOLUMES of 2 are too few", Scene.LOST, STATE,
            each("blocks ", new int[] {62, 500}, blocks -> x -> x.dump(0, blocks)));
    }

    private static void argumentsComeFirst(String sentence, Scene scene) {
        refused(sentence + ", level", scene, ARGUMENT,
            each("level ", NO_LEVELS, level -> x -> x.dump(level, 500)));
        refused(sentence + ", blocks", scene, ARGUMENT,
            each("blocks ", NO_BLOCK_COUNTS, blocks -> x -> x.dump(0, blocks)));
    }

    private static void drop(Scene scene) {
        refused("4: drop: n is below 0", scene, ARGUMENT,
            each("drop", BELOW_0, n -> x -> x.drop(n)));
        refused("4: drop: there are not so many", scene, ARGUMENT,
            each("drop", new int[] {scene.count() + 1, 301, HIGH}, n -> x -> x.drop(n)));
    }

    private static void chain(Scene scene) {
        noSuchDump("5: chain", scene, d -> x -> x.chain(d, 0));
        String last = "5: chain: k is below 0 is looked at last";
        noSuchDump(last, scene, d -> x -> x.chain(d, -1));
        noSuchDump(last, scene, d -> x -> x.chain(d, LOW));
        for (int dump : someDumps(scene)) {
            refused("5: chain of " + dump + ": k is below 0", scene, ARGUMENT,
                each("k ", BELOW_0, k -> x -> x.chain(dump, k)));
        }
    }

    private static void place(Scene scene) {
        noSuchDump("7: place", scene, d -> x -> x.place(d, 0));
        String last = "7: place: it has none such is looked at last";
        noSuchDump(last, scene, d -> x -> x.place(d, -1));
        noSuchDump(last, scene, d -> x -> x.place(d, 500));
        for (int dump : someDumps(scene)) {
            int blocks = scene.blocksOf(dump);
            refused("7: place in " + dump + ": it has none such", scene, ARGUMENT,
                each("k ", new int[] {LOW, -1, blocks, blocks + 1, 500, HIGH},
                    k -> x -> x.place(dump, k)));
        }
    }

    /** The first, the last, and one between them. */
    private static int[] someDumps(Scene scene) {
        int count = scene.count();
        return count == 0 ? new int[0] : new int[] {0, count / 2, count - 1};
    }

    private static void owner(Scene scene) {
        int size = scene.size();
        refused("8: owner: there is no such VOLUME", scene, ARGUMENT,
            each("volume ", NO_VOLUMES, volume -> x -> x.owner(volume, 1)));
        refused("8: owner: there is no such VOLUME, asked for its LABEL", scene, ARGUMENT,
            each("volume ", NO_VOLUMES, volume -> x -> x.owner(volume, 0)));
        for (int volume : new int[] {0, 1, 31, 63}) {
            refused("8: owner on " + volume + ": there is no such BLOCK", scene, ARGUMENT,
                each("block ", new int[] {LOW, -1, size, size + 1, 1001, HIGH},
                    block -> x -> x.owner(volume, block)));
        }
        refused("8: owner: there is no such VOLUME, and no such BLOCK", scene, ARGUMENT,
            each("volume ", NO_VOLUMES, volume -> x -> x.owner(volume, size)));
        refused("8: owner: there is no such VOLUME, and no such BLOCK", scene, ARGUMENT,
            each("volume ", NO_VOLUMES, volume -> x -> x.owner(volume, -1)));
    }

    private static void lose(Scene scene) {
        refused("10: lose, true: there is none such", scene, ARGUMENT,
            each("volume ", NO_VOLUMES, volume -> x -> x.lose(volume, true)));
        refused("10: lose, false: there is none such", scene, ARGUMENT,
            each("volume ", NO_VOLUMES, volume -> x -> x.lose(volume, false)));
        // Shifts take the volume modulo 64: these would be volumes 2, 63 and 5.
        refused("10: lose: a VOLUME comes round", scene, ARGUMENT,
            each("volume ", new int[] {66, 127, -59}, volume -> x -> x.lose(volume, false)));
        refused("10: lose: a VOLUME comes round", scene, ARGUMENT,
            each("volume ", new int[] {66, 127, -59}, volume -> x -> x.lose(volume, true)));
    }

    private static void spare(Scene scene) {
        refused("13: spare: n is below 0", scene, ARGUMENT,
            each("spare", BELOW_0, n -> x -> x.spare(n)));
    }

    private static void count(Scene scene) {
        refused("14: count: others", scene, ARGUMENT,
            each("count", new int[] {LOW, -1, 6, 7, HIGH}, what -> x -> x.count(what)));
    }
}
