import java.util.Random;

/** All promises together: runs of calls beside the model, wrong ones among them. */
final class RunsTest {
    private static final int RUNS = 600;
    // An object is for 512 calls, and a step with its looks at the result takes at most 134.
    private static final int LAST_STEP = 512 - 134;

    private final Random random;
    private final TwoSeals seals = new TwoSeals();
    private final Model model = new Model();
    private int used = 0;

    private RunsTest(long seed) {
        random = new Random(seed);
    }

    public static void main(String[] args) {
        for (int run = 0; run < RUNS; run++) {
            RunsTest test = new RunsTest(run);
            while (test.used <= LAST_STEP) {
                test.oneStep();
            }
        }
        Check.end();
    }

    private void both(String what, Check.Call own, Check.Call models) {
        used++;
        Check.same(what, Check.outcome(own), Check.outcome(models));
    }

    private int row() {
        return random.nextInt(40) == 0 ? 4 - 5 * random.nextInt(2) : random.nextInt(4);
    }

    private int way() {
        return random.nextInt(30) == 0 ? 2 - 3 * random.nextInt(2) : random.nextInt(2);
    }

    private void oneStep() {
        switch (random.nextInt(14)) {
            case 0, 1, 2 -> type(row(), random.nextLong(), random.nextInt(60) == 0 ? 9 : 1 + random.nextInt(8));
            case 3 -> fillUp();
            case 4 -> clear(random.nextInt(3) == 0 ? row() : 3);
            case 5 -> poke(row(), random.nextInt(70) - 2, random.nextInt(20) == 0 ? 256 : random.nextInt(256));
            case 6, 7 -> take(random.nextInt(3) == 0 ? row() : 3);
            case 8 -> block();
            case 9 -> hash(way());
            case 10 -> seal(way());
            case 11 -> sealTakeOpen(way());
            case 12 -> open(way());
            default -> look(random.nextInt(70) - 2);
        }
    }

    // Keys and nonces seldom come out right by chance.
    private void fillUp() {
        clear(0);
        type(0, random.nextLong(), 8);
        type(0, random.nextLong(), 8);
        clear(1);
        type(1, random.nextLong(), 8);
        type(1, random.nextLong(), 4);
    }

    private void sealTakeOpen(int way) {
        seal(way);
        take(3);
        open(way);
        take(3);
    }

    private void type(int row, long bits, int n) {
        both("type(" + row + ", " + bits + ", " + n + ")",
                () -> seals.type(row, bits, n), () -> model.type(row, bits, n));
    }

    private void clear(int row) {
        both("clear(" + row + ")", () -> seals.clear(row), () -> model.clear(row));
    }

    private void poke(int row, int i, int v) {
        both("poke(" + row + ", " + i + ", " + v + ")", () -> {
            seals.poke(row, i, v);
            return "done";
        }, () -> model.poke(row, i, v));
    }

    private void take(int row) {
        both("take(" + row + ")", () -> seals.take(row), () -> model.take(row));
    }

    private void block() {
        both("block()", () -> {
            seals.block();
            return "done";
        }, model::block);
        sameResult();
    }

    private void hash(int way) {
        both("hash(" + way + ")", () -> {
            seals.hash(way);
            return "done";
        }, () -> model.hash(way));
        sameResult();
    }

    private void seal(int way) {
        both("seal(" + way + ")", () -> seals.seal(way), () -> model.seal(way));
        sameResult();
    }

    private void open(int way) {
        both("open(" + way + ")", () -> seals.open(way), () -> model.open(way));
        sameResult();
    }

    private void look(int i) {
        both("size()", seals::size, model::size);
        both("at(" + i + ")", () -> seals.at(i), () -> model.at(i));
    }

    private void sameResult() {
        used += 1 + model.size();
        Check.same("the result", Check.hexResult(seals), Check.hex(model.result()));
    }
}
