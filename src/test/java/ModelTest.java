import java.util.Random;

/** Many runs of calls, the same each time, on the program and on the model of the tests. */
public final class ModelTest {
    private static final int RUNS = 1500;
    // Some steps make several calls, and behind the 512th nothing is promised.
    private static final int CALLS = 490;
    private static final int[] FAR = {
        Integer.MIN_VALUE, Integer.MIN_VALUE + 1, -256, -4, -1, 0, 1, 2, 4, 255, 256, 3000, 3001, 4096, 8191, 8192,
        8193, 65536, Integer.MAX_VALUE - 3, Integer.MAX_VALUE
    };

    private final Random random;
    private final GlulxHeads x = new GlulxHeads();
    private final Model model = new Model();
    private int calls = 0;
    private String label = "";

    private ModelTest(long seed) {
        random = new Random(seed);
    }

    public static void main(String[] args) {
        for (int run = 0; run < RUNS; run++) {
            new ModelTest(run).run(run);
        }
        Due.end();
    }

    private void run(int number) {
        while (calls < CALLS) {
            label = "run " + number + ", call " + calls + ": ";
            step();
        }
    }

    private void due(String call, long got, long want) {
        calls++;
        Due.is(label + call, got, want);
    }

    private int any(int bound) {
        return random.nextInt(bound);
    }

    private int far() {
        return FAR[any(FAR.length)];
    }

    /** Mostly a place near where things happen, at times any number at all. */
    private int place() {
        switch (any(8)) {
            case 0:
                return far();
            case 1:
                return (int) model.told(9) - 4 + any(8);
            case 2:
                return (int) model.told(2) - 4 + any(8);
            case 3:
                return 1 + any(8192);
            default:
                return any((int) Math.max(1, model.told(9)));
        }
    }

    private void step() {
        if (model.told(9) < 0 ? any(3) > 0 : any(60) == 0) {
            newFile();
            return;
        }
        int kind = any(100);
        if (kind < 15) {
            fileStep();
        } else if (kind < 50) {
            widthStep();
        } else if (kind < 72) {
            heapStep();
        } else if (kind < 88) {
            stateStep();
        } else {
            lookStep();
        }
    }

    private void newFile() {
        due("cut(0)", x.cut(0), model.cut(0));
        int ext = 256 * (1 + any(11));
        int ram = 256 * (1 + any(ext / 256));
        int end = Math.min(4096, ext + 256 * any(6));
        int seed = random.nextInt();
        due("fill", x.fill(ext, seed), model.fill(ext, seed));
        int[] head = {0x476C756C, 0x20000 + any(0x10200), ram, ext, end, 256 * (1 + any(256)), 36 + any(end - 36),
            any(2) * (36 + any(end - 36)), 0};
        for (int i = 0; i < 9; i++) {
            due("word", x.word(4 * i, head[i]), model.word(4 * i, head[i]));
        }
        if (any(2) == 0) {
            int right = (int) model.sum();
            due("word(32)", x.word(32, right), model.word(32, right));
        }
        if (any(4) == 0) {
            int at = 4 * any(9);
            int v = any(2) == 0 ? far() : head[at / 4] + 256 * (any(5) - 2) + any(3) - 1;
            due("word", x.word(at, v), model.word(at, v));
        }
        due("verdict", x.verdict(), model.verdict());
        due("load", x.load(), model.load());
    }

    private void fileStep() {
        int v = random.nextInt();
        int n = any(3) == 0 ? far() : any(200);
        switch (any(7)) {
            case 0:
                due("feed", x.feed(v, n, -v, 7, v >> 9), model.feed(v, n, -v, 7, v >> 9));
                break;
            case 1:
                due("fill", x.fill(n, v), model.fill(n, v));
                break;
            case 2:
                int at = any(4) == 0 ? n : n / 4 * 4;
                due("word", x.word(at, v), model.word(at, v));
                break;
            case 3:
                due("cut", x.cut(n), model.cut(n));
                break;
            case 4:
                due("sum", x.sum(), model.sum());
                break;
            case 5:
                due("verdict", x.verdict(), model.verdict());
                break;
            default:
                due("load", x.load(), model.load());
                break;
        }
    }

    private void widthStep() {
        int width = any(12) == 0 ? far() : 1 << any(3);
        int at = place();
        int v = any(4) == 0 ? 0 : random.nextInt();
        if (any(3) == 0) {
            due("read(" + width + ", " + at + ")", x.read(width, at), model.read(width, at));
        } else {
            due("write(" + width + ", " + at + ", " + v + ")", x.write(width, at, v), model.write(width, at, v));
        }
    }

    private void heapStep() {
        int n = any(9) == 0 ? far() : any(3) == 0 ? 1 + any(3000) : 1 + any(300);
        switch (any(6)) {
            case 0:
                int m = any(3) == 0 ? place() : 256 * any(18);
                due("resize(" + m + ")", x.resize(m), model.resize(m));
                break;
            case 1:
            case 2:
                freeSome();
                break;
            default:
                due("block(" + n + ")", x.block(n), model.block(n));
                break;
        }
    }

    private void freeSome() {
        int at = any(4) == 0 || model.told(11) < 1 ? place() : model.someBlock(any(16));
        due("free(" + at + ")", x.free(at), model.free(at));
    }

    private void stateStep() {
        int at = place();
        int n = any(3) == 0 ? far() : any(600);
        switch (any(8)) {
            case 0:
                due("restart", x.restart(), model.restart());
                break;
            case 1:
            case 2:
                due("protect(" + at + ", " + n + ")", x.protect(at, n), model.protect(at, n));
                break;
            case 3:
            case 4:
                due("restore", x.restore(), model.restore());
                break;
            default:
                due("save", x.save(), model.save());
                break;
        }
        int m = (int) Math.max(0, model.told(9));
        due("hash of all", x.hash(0, m), model.hash(0, m));
    }

    private void lookStep() {
        int at = place();
        int n = any(3) == 0 ? far() : any(600);
        int page = any(5) == 0 ? far() : any(34);
        int what = any(9) == 0 ? far() : any(17) - 1;
        switch (any(4)) {
            case 0:
                due("told(" + what + ")", x.told(what), model.told(what));
                break;
            case 1:
                due("changed(" + page + ")", x.changed(page), model.changed(page));
                break;
            case 2:
                due("hash(" + at + ", " + n + ")", x.hash(at, n), model.hash(at, n));
                break;
            default:
                due("cell(" + at + ")", Due.cellOr(x, at, Model.THROWS), model.cell(at));
                break;
        }
        for (int i = 9; i <= 15; i++) {
            due("told(" + i + ")", x.told(i), model.told(i));
        }
    }
}
