/** Promises 1 to 8, sentence by sentence. */
public final class FileSentences {
    private static final int MIN = Integer.MIN_VALUE;
    private static final int MAX = Integer.MAX_VALUE;

    private FileSentences() {
    }

    public static void run() {
        newObject();
        feed();
        feedRefused();
        fillBounds();
        fillBytes();
        fillRefused();
        word();
        wordRefused();
        cut();
        cutRefused();
        verdict();
        sum();
        sumRefused();
        load();
        loadWhetherRight();
        loadInstead();
        loadAnswers();
    }

    private static void newObject() {
        Due.sentence("Promise 1", "THE FILE is empty; no MACHINE.");
        GlulxHeads x = new GlulxHeads();
        Due.is("no byte can be kept", x.cut(1), -1);
        Due.is("none goes", x.cut(0), 0);
        Due.is("no WORD", x.word(0, 1), -1);
        Due.is("verdict", x.verdict(), 1);
        Due.nothing("sum", x.sum());
        Due.nothing("told(9)", x.told(9));
        Due.is("save", x.save(), -3);
        Due.cell(x, 0, -3);
        Due.is("the first byte", x.fill(1, 1), 1);
        Due.is("a FILE alone is no MACHINE", x.restart(), -3);
        Due.is("another object is empty too", new GlulxHeads().cut(0), 0);
    }

    private static void feed() {
        Due.sentence("Promise 2", "Five numbers, the highest byte of each first, come behind THE FILE: how many bytes "
            + "it has.");
        GlulxHeads x = Story.file(256, 256, 512);
        x.cut(36);
        Due.is("behind 36 bytes", x.feed(0x01020384, -1, MIN, MAX, 0), 56);
        Due.is("behind 56 bytes", x.feed(5, 6, 7, 8, 9), 76);
        x.fill(180, 1);
        Due.is("load", x.load(), 0);
        int[] bytes = {1, 2, 3, 0x84, 255, 255, 255, 255, 128, 0, 0, 0, 127, 255, 255, 255, 0, 0, 0, 0, 0, 0, 0, 5};
        for (int i = 0; i < bytes.length; i++) {
            Due.is("byte " + (36 + i), x.read(1, 36 + i), bytes[i]);
        }
        for (int i = 0; i < 5; i++) {
            Due.is("number " + i, x.read(4, 56 + 4 * i), 5 + i);
        }
        GlulxHeads y = new GlulxHeads();
        y.fill(1, 1);
        Due.is("behind one byte", y.feed(1, 2, 3, 4, 5), 21);
        y.cut(0);
        for (int i = 1; i <= 150; i++) {
            Due.is("feed " + i, y.feed(1, 2, 3, 4, 5), 20 * i);
        }
    }

    private static void feedRefused() {
        Due.sentence("Promise 2", "-4.");
        for (int length = 2978; length <= 3000; length++) {
            GlulxHeads x = new GlulxHeads();
            x.fill(length, 1);
            long sum = x.sum();
            boolean room = length <= 2980;
            Due.is("feed behind " + length, x.feed(1, 2, 3, 4, 5), room ? length + 20 : -4);
            Due.is("how many there are", x.cut(length), room ? 20 : 0);
            Due.is("they are as they were", x.sum(), sum);
        }
    }

    private static void fillBounds() {
        Due.sentence("Promise 3", "n bytes more (1 to 3000):");
        GlulxHeads x = new GlulxHeads();
        Due.is("fill(0)", x.fill(0, 1), -2);
        Due.is("fill(1)", x.fill(1, 1), 1);
        Due.is("fill(2)", x.fill(2, 1), 3);
        x.cut(0);
        Due.is("fill(2999)", x.fill(2999, 1), 2999);
        x.cut(0);
        Due.is("fill(3000)", x.fill(3000, 1), 3000);
        x.cut(0);
        Due.is("fill(3001)", x.fill(3001, 1), -2);
        Due.is("none came", x.cut(0), 0);
    }

    /** The byte, with numbers that do not wrap around by themselves. */
    private static void filled(GlulxHeads x, int at, int n, int seed) {
        long state = seed & 4294967295L;
        for (int i = 0; i < n; i++) {
            state = (state * 1103515245L + 12345L) % 4294967296L;
            Due.is("seed " + seed + ", byte " + i, x.read(1, at + i), state / 65536 % 256);
        }
    }

    private static void fillBytes() {
        Due.sentence("Promise 3", "x is seed at first; x becomes x * 1103515245 + 12345, and a byte is bits 16 to 23 of "
            + "it: how many there are.");
        for (int seed : new int[] {0, 1, -1, 12345, -12345, MAX, MIN, 65535, 65536}) {
            GlulxHeads x = Story.file(256, 256, 256);
            x.cut(36);
            Due.is("how many there are", x.fill(100, seed), 136);
            Due.is("how many there are", x.fill(120, seed), 256);
            Due.is("load", x.load(), 0);
            filled(x, 36, 100, seed);
            // The next fill begins with its seed again.
            filled(x, 136, 120, seed);
        }
    }

    private static void fillRefused() {
        Due.sentence("Promise 3", "-2; -4.");
        for (int n : new int[] {MIN, MIN + 1, -3000, -1, 0, 3001, 3002, MAX}) {
            GlulxHeads x = new GlulxHeads();
            Due.is("fill(" + n + ")", x.fill(n, 1), -2);
            Due.is("none came", x.cut(0), 0);
            x.fill(3000, 1);
            Due.is("fill(" + n + "), no room", x.fill(n, 1), -2);
            Due.is("3000 are there", x.cut(3000), 0);
        }
        GlulxHeads x = new GlulxHeads();
        x.fill(1000, 1);
        long sum = x.sum();
        Due.is("fill(3000)", x.fill(3000, 1), -4);
        Due.is("fill(2001)", x.fill(2001, 1), -4);
        Due.is("none came", x.cut(1000), 0);
        Due.is("as it was", x.sum(), sum);
        Due.is("fill(2000)", x.fill(2000, 1), 3000);
        Due.is("fill(1)", x.fill(1, 1), -4);
    }

    private static void word() {
        Due.sentence("Promise 4", "The WORD at a place of THE FILE becomes v (as 32 bits): 1.");
        for (int v : new int[] {0, 1, -1, MIN, MAX, 0x01020384}) {
            for (int at : new int[] {36, 100, 252}) {
                GlulxHeads x = Story.file(256, 256, 512);
                x.word(at - 4, 7);
                if (at < 252) {
                    x.word(at + 4, 9);
                }
                Due.is("word(" + at + ", " + v + ")", x.word(at, v), 1);
                Due.is("load", x.load(), 0);
                Due.is("the WORD at " + at, x.read(4, at), v & 4294967295L);
                Due.is("its first byte", x.read(1, at), v >>> 24);
                Due.is("the one ahead", x.read(4, at - 4), 7);
                Due.is("the one behind", x.read(4, at + 4), at == 252 ? 0 : 9);
            }
        }
        GlulxHeads x = Story.file();
        Due.is("the first WORD", x.word(0, 0), 1);
        Due.is("it is no MARK", x.verdict(), 2);
        Due.is("the last WORD", x.word(508, 1), 1);
    }

    private static void wordRefused() {
        Due.sentence("Promise 4", "-1 also no multiple of 4.");
        GlulxHeads x = new GlulxHeads();
        Due.is("an empty FILE", x.word(0, 1), -1);
        for (int length = 1; length <= 8; length++) {
            x.cut(0);
            x.fill(length, 1);
            Due.is("word(0) of " + length, x.word(0, 1), length >= 4 ? 1 : -1);
            Due.is("word(4) of " + length, x.word(4, 1), length >= 8 ? 1 : -1);
            Due.is("word(8) of " + length, x.word(8, 1), -1);
        }
        x = Story.file();
        long sum = x.sum();
        for (int at : new int[] {MIN, MIN + 4, -512, -4, -3, -1, 1, 2, 3, 5, 33, 507, 509, 510, 511, 512, 516, 3000,
            MAX, MAX - 3}) {
            Due.is("word(" + at + ")", x.word(at, -1), -1);
        }
        Due.is("nothing changes", x.sum(), sum);
        x.cut(0);
        x.fill(3000, 1);
        Due.is("the last WORD of a full FILE", x.word(2996, 1), 1);
        Due.is("behind it", x.word(3000, 1), -1);
    }

    private static void cut() {
        Due.sentence("Promise 5", "THE FILE keeps its first n bytes: how many went.");
        GlulxHeads x = new GlulxHeads();
        x.feed(1, 2, 3, 4, 5);
        x.feed(6, 7, 8, 9, 10);
        x.feed(11, 12, 13, 14, 15);
        Due.is("all are kept", x.cut(60), 0);
        Due.is("as it was", x.sum(), 111);
        Due.is("all but one", x.cut(59), 1);
        Due.is("without the last byte", x.sum(), 96);
        Due.is("40 are kept", x.cut(40), 19);
        Due.is("the first 40", x.sum(), 46);
        Due.is("feed behind them", x.feed(20, 0, 0, 0, 0), 60);
        Due.is("none of what went is there", x.sum(), 66);
        Due.is("one is kept", x.cut(1), 59);
        Due.is("none is kept", x.cut(0), 1);
        Due.is("none of none", x.cut(0), 0);
        x.fill(3000, 1);
        Due.is("3000 go", x.cut(0), 3000);
        Due.is("there is room again", x.fill(3000, 1), 3000);
    }

    private static void cutRefused() {
        Due.sentence("Promise 5", "-1.");
        GlulxHeads x = new GlulxHeads();
        Due.is("cut(1) of none", x.cut(1), -1);
        Due.is("cut(-1) of none", x.cut(-1), -1);
        x.fill(100, 1);
        for (int n : new int[] {MIN, -100, -1, 101, 3000, 3001, MAX}) {
            Due.is("cut(" + n + ")", x.cut(n), -1);
        }
        Due.is("100 are there", x.cut(100), 0);
        Due.is("cut(99)", x.cut(99), 1);
        Due.is("cut(100), 99 are there", x.cut(100), -1);
        x.cut(0);
        x.fill(3000, 1);
        Due.is("cut(3001) of 3000", x.cut(3001), -1);
        Due.is("cut(3000) of 3000", x.cut(3000), 0);
    }

    private static void verdict() {
        Due.sentence("Promise 6", "THE VERDICT.");
        GlulxHeads x = new GlulxHeads();
        Due.is("an empty FILE", x.verdict(), 1);
        Story.put(x, 256, 512, 1024);
        Due.is("a good FILE", x.verdict(), 0);
        Due.is("asked again", x.verdict(), 0);
        Due.nothing("it is not LOADED by that", x.told(9));
        x.load();
        x.word(0, 1);
        Due.is("it is of THE FILE, not of the MACHINE", x.verdict(), 2);
        x.cut(0);
        Due.is("an empty FILE again", x.verdict(), 1);
    }

    private static void sum() {
        Due.sentence("Promise 7", "What SUM would be RIGHT.");
        GlulxHeads x = Story.file();
        long right = x.sum();
        x.word(32, (int) right);
        Due.is("asked again", x.sum(), right);
        x.load();
        Due.is("it is RIGHT", x.told(15), 1);
        Due.is("it is SUM", x.told(8), right);
        x.cut(0);
        x.feed(0, 0, 0, 0, 0);
        x.feed(0, 0, 0, 0, 0);
        Due.is("the least", x.sum(), 0);
        x.word(0, -1);
        Due.is("the greatest", x.sum(), 4294967295L);
        x.word(0, MIN);
        Due.is("without sign", x.sum(), 2147483648L);
        Due.is("whatever THE VERDICT is", x.verdict(), 2);
    }

    private static void sumRefused() {
        Due.sentence("Promise 7", "NOTHING: fewer than 36 bytes.");
        GlulxHeads x = new GlulxHeads();
        Due.nothing("none", x.sum());
        x.feed(0, 0, 0, 0, 0);
        x.feed(0, 0, 0, 0, 0);
        x.cut(37);
        Due.is("37", x.sum(), 0);
        x.cut(36);
        Due.is("36", x.sum(), 0);
        x.cut(35);
        Due.nothing("35", x.sum());
        x.cut(1);
        Due.nothing("1", x.sum());
    }

    private static void load() {
        Due.sentence("Promise 8", "THE FILE is LOADED, if THE VERDICT is 0");
        int[][] faults = {{0, 1}, {4, 1}, {8, 257}, {8, 0}, {12, 256}, {20, 0}, {24, 35}, {28, 35}, {16, 4352}};
        for (int i = 0; i < faults.length; i++) {
            GlulxHeads x = Story.file();
            x.word(faults[i][0], faults[i][1]);
            Due.is("load", x.load(), i + 2);
            Due.nothing("it is not LOADED", x.told(9));
        }
        GlulxHeads x = Story.file();
        x.cut(35);
        Due.is("load", x.load(), 1);
        Due.nothing("it is not LOADED", x.told(9));
        Story.put(x, 256, 512, 1024);
        Due.is("load", x.load(), 0);
        Due.is("it is LOADED", x.told(9), 1024);
    }

    private static void loadWhetherRight() {
        Due.sentence("Promise 8", "(whether SUM is RIGHT or not),");
        for (int off = -1; off <= 1; off++) {
            GlulxHeads x = Story.file();
            x.word(32, (int) x.sum() + off);
            Due.is("load, SUM is off by " + off, x.load(), 0);
            Due.is("M", x.told(9), 1024);
            Due.is("told(15)", x.told(15), off == 0 ? 1 : 0);
        }
    }

    private static void loadInstead() {
        Due.sentence("Promise 8", "instead of what was before:");
        GlulxHeads x = Story.loaded(256, 512, 2048);
        x.write(4, 1000, -1);
        x.save();
        x.block(100);
        x.save();
        x.protect(0, 8192);
        x.read(1, -1);
        Story.put(x, 512, 512, 1024);
        x.word(4, 0x20000);
        Due.is("what was before is there until then", x.told(9), 2304);
        Due.is("load", x.load(), 0);
        Due.is("VERSION", x.told(1), 0x20000);
        Due.is("M", x.told(9), 1024);
        Due.is("no HEAP", x.told(10), 0);
        Due.is("no BLOCKS", x.told(11), 0);
        Due.is("no STATES", x.told(12), 0);
        Due.is("no FAULT", x.told(13), 0);
        Due.is("nor its place", x.told(14), 0);
        Due.is("MEMORY", x.read(4, 1000), 0);
        Due.is("the last byte", x.read(1, 1023), 0);
        Due.nothing("behind it", x.read(1, 1024));
        Due.is("no BLOCK", x.free(2048), -1);
        Due.is("no STATE", x.restore(), -3);
        x.write(4, 1000, 1);
        x.restart();
        Due.is("nothing is PROTECTED", x.read(4, 1000), 0);
        x.write(4, 1000, 1);
        Due.is("the same FILE once more", x.load(), 0);
        Due.is("MEMORY", x.read(4, 1000), 0);
    }

    private static void loadAnswers() {
        Due.sentence("Promise 8", "THE VERDICT.");
        GlulxHeads x = Story.loaded();
        x.write(4, 1000, 5);
        x.save();
        int all = x.hash(0, 1024);
        x.word(28, 1024);
        Due.is("load", x.load(), 9);
        Due.is("verdict", x.verdict(), 9);
        Due.is("what was before stays", x.hash(0, 1024), all);
        Due.is("its STATE stays", x.told(12), 1);
        x.word(28, 1023);
        Due.is("load", x.load(), 0);
        Due.is("verdict", x.verdict(), 0);
        Due.is("it is LOADED", x.told(7), 1023);
    }
}
