import java.util.Random;
import java.util.function.Supplier;

/** Long runs of calls, the same ones each time, held against PlainTapes. */
public final class LongRunsTest {
    private static final int RUNS = 300;
    // The document promises nothing about an object after its 512th call.
    private static final int CALLS = 512;
    private static final int[] SIZES = {2, 3, 4, 5, 8, 20, 33, 100, 257, 999, 1000};
    private static final int[] WRONG = {Integer.MIN_VALUE, -1, 64, 300, 1001, Integer.MAX_VALUE};

    private static final Answers A = new Answers();
    private static int fullest = 0;

    public static void main(String[] args) {
        for (int run = 0; run < RUNS; run++) {
            new LongRunsTest(run).run();
        }
        A.due("most dumps at the end of a run", fullest, 300);
        A.end();
    }

    private final int number;
    private final Random choice;
    private final TapeChains x = new TapeChains();
    private final PlainTapes plain = new PlainTapes();
    // Such a run hardly does anything but add dumps, so that 300 of them are reached.
    private final boolean filling;
    private int size = 100;

    private LongRunsTest(int number) {
        this.number = number;
        this.choice = new Random(number);
        this.filling = number % 3 == 0;
    }

    private void run() {
        int writing = filling ? 95 : choice.nextInt(3) * 25 + 10;
        int call = 0;
        // Some runs begin with nothing, so that a new object is looked at too.
        if (number % 5 != 0) {
            begin(SIZES[number % SIZES.length]);
            call++;
        }
        for (; call < CALLS; call++) {
            if (choice.nextInt(100) < writing) {
                write();
            } else {
                ask();
            }
        }
        fullest = Math.max(fullest, plain.count(0));
    }

    private void same(String call, Supplier<Object> got, Supplier<Object> want) {
        A.due("run " + number + ": " + call, outcome(got), outcome(want));
    }

    private static Object outcome(Supplier<Object> call) {
        try {
            return call.get();
        } catch (RuntimeException e) {
            return "throws." + e.getClass().getSimpleName();
        }
    }

    private int below(int bound) {
        return choice.nextInt(20) == 0 ? WRONG[choice.nextInt(WRONG.length)]
            : choice.nextInt(bound + 1);
    }

    private int someDump() {
        return below(Math.max(1, plain.count(0)));
    }

    private void begin(int blocks) {
        size = blocks >= 2 && blocks <= 1000 ? blocks : size;
        same("begin(" + blocks + ")", () -> {
            x.begin(blocks);
            return "";
        }, () -> {
            plain.begin(blocks);
            return "";
        });
    }

    private void drop(int n) {
        same("drop(" + n + ")", () -> {
            x.drop(n);
            return "";
        }, () -> {
            plain.drop(n);
            return "";
        });
    }

    private void write() {
        int kind = choice.nextInt(200) + (filling ? 10 : 0);
        if (kind == 0) {
            begin(choice.nextBoolean() ? below(1) : SIZES[choice.nextInt(SIZES.length)]);
        } else if (kind < 12) {
            drop(!filling && choice.nextInt(4) == 0 ? someDump() : below(3));
        } else if (kind < 40) {
            int volume = choice.nextBoolean() ? below(64) : below(Math.max(1, plain.count(1)));
            boolean lost = choice.nextBoolean();
            same("lose(" + volume + ", " + lost + ")",
                () -> x.lose(volume, lost), () -> plain.lose(volume, lost));
        } else {
            int level = below(10);
            int blocks = below(choice.nextInt(8) == 0 ? 501 : Math.min(500, size / 4 + 2));
            same("dump(" + level + ", " + blocks + ")",
                () -> x.dump(level, blocks), () -> plain.dump(level, blocks));
        }
    }

    private void ask() {
        int dump = someDump();
        int k = below(choice.nextBoolean() ? 10 : 500);
        int volume = choice.nextBoolean() ? below(64) : below(Math.max(1, plain.count(1)));
        int block = below(size);
        int what = below(6);
        String one = "(" + dump + ")";
        switch (choice.nextInt(9)) {
            case 0 -> same("chain(" + dump + ", " + k + ")",
                () -> x.chain(dump, k), () -> plain.chain(dump, k));
            case 1 -> same("depth" + one, () -> x.depth(dump), () -> plain.depth(dump));
            case 2 -> same("place(" + dump + ", " + k + ")",
                () -> x.place(dump, k), () -> plain.place(dump, k));
            case 3 -> same("owner(" + volume + ", " + block + ")",
                () -> x.owner(volume, block), () -> plain.owner(volume, block));
            case 4 -> same("needs" + one, () -> x.needs(dump), () -> plain.needs(dump));
            case 5 -> same("good" + one, () -> x.good(dump), () -> plain.good(dump));
            case 6 -> same("latest" + one, () -> x.latest(dump), () -> plain.latest(dump));
            case 7 -> same("spare" + one, () -> x.spare(dump), () -> plain.spare(dump));
            default -> same("count(" + what + ")", () -> x.count(what), () -> plain.count(what));
        }
    }
}
