/** Promises 1 to 8: THE FILE, its verdict, its sum, and loading it. */
public final class FilePromises {
    public static void main(String[] args) {
        newObject();
        feed();
        fill();
        word();
        cut();
        verdictOrder();
        verdictEdges();
        verdictWithoutSign();
        sum();
        sumWraps();
        load();
        loadInsteadOfBefore();
        loadStays();
        Due.end();
    }

    private static void newObject() {
        Due.is("NOTHING", GlulxHeads.NOTHING, Long.MIN_VALUE);
        GlulxHeads x = new GlulxHeads();
        Due.is("new: cut(0)", x.cut(0), 0);
        Due.is("new: cut(1)", x.cut(1), -1);
        Due.is("new: verdict()", x.verdict(), 1);
        for (int what = -1; what <= 16; what++) {
            Due.nothing("new: told(" + what + ")", x.told(what));
        }
        noMachine(x);
    }

    // Each call has also a wrong input, because -3 for no MACHINE is asked first of all.
    private static void noMachine(GlulxHeads x) {
        Due.nothing("no machine: read", x.read(1, 0));
        Due.nothing("no machine: read width", x.read(3, -1));
        Due.is("no machine: write", x.write(1, 0, 0), -3);
        Due.is("no machine: write width", x.write(3, 0, 0), -3);
        Due.is("no machine: resize", x.resize(256), -3);
        Due.is("no machine: resize odd", x.resize(-1), -3);
        Due.is("no machine: block", x.block(1), -3);
        Due.is("no machine: block(0)", x.block(0), -3);
        Due.is("no machine: free", x.free(-1), -3);
        Due.is("no machine: protect", x.protect(0, 1), -3);
        Due.is("no machine: protect below 0", x.protect(-1, -1), -3);
        Due.is("no machine: restart", x.restart(), -3);
        Due.is("no machine: save", x.save(), -3);
        Due.is("no machine: restore", x.restore(), -3);
        Due.is("no machine: changed", x.changed(0), -3);
        Due.is("no machine: changed(-1)", x.changed(-1), -3);
        Due.is("no machine: hash", x.hash(0, 0), -3);
        Due.is("no machine: hash below 0", x.hash(-1, -1), -3);
        Due.cell(x, 0, -3);
        Due.cell(x, -1, -3);
    }

    private static void feed() {
        GlulxHeads x = new GlulxHeads();
        Due.is("feed", x.feed(Story.MARK, 0x30102, 256, 256, 512), 20);
        Due.is("feed", x.feed(256, 0x00000100, 0, 0x01020304, -2), 40);
        // 256 bytes in all, so that they can be looked at in memory
        Due.is("fill", x.fill(216, 1), 256);
        Due.is("load", x.load(), 0);
        Due.is("fed first word", x.read(4, 0), Story.MARK);
        Due.is("fed sum", x.read(4, 32), 0x01020304L);
        Due.is("fed highest byte first", x.read(1, 32), 1);
        Due.is("fed lowest byte last", x.read(1, 35), 4);
        Due.is("fed without sign", x.read(4, 36), 0xFFFFFFFEL);

        GlulxHeads y = new GlulxHeads();
        Due.is("fill to 2980", y.fill(2980, 1), 2980);
        Due.is("feed to 3000", y.feed(1, 2, 3, 4, 5), 3000);
        Due.is("feed, no room", y.feed(1, 2, 3, 4, 5), -4);
        Due.is("feed refused changes nothing", y.cut(2981), 19);
        Due.is("feed, one byte too many", y.feed(1, 2, 3, 4, 5), -4);
        Due.is("feed refused changes nothing", y.cut(2981), 0);
    }

    private static void fill() {
        GlulxHeads x = new GlulxHeads();
        Due.is("fill(0)", x.fill(0, 1), -2);
        Due.is("fill(-1)", x.fill(-1, 1), -2);
        Due.is("fill(3001)", x.fill(3001, 1), -2);
        Due.is("fill(min)", x.fill(Integer.MIN_VALUE, 1), -2);
        Due.is("fill(max)", x.fill(Integer.MAX_VALUE, 1), -2);
        Due.is("fill(1)", x.fill(1, 1), 1);
        Due.is("fill(3000) behind 1", x.fill(3000, 1), -4);
        Due.is("fill(3001) behind 1: -2 ahead of -4", x.fill(3001, 1), -2);
        Due.is("fill(2999)", x.fill(2999, 1), 3000);
        Due.is("fill(1), full", x.fill(1, 1), -4);
        Due.is("cut all", x.cut(0), 3000);
        Due.is("fill(3000)", x.fill(3000, -9), 3000);

        GlulxHeads y = Story.file(256, 256, 512);
        y.cut(36);
        y.word(12, 512);
        int seed = -123456789;
        Due.is("fill(476)", y.fill(476, seed), 512);
        Due.is("load", y.load(), 0);
        int v = seed;
        for (int at = 36; at < 300; at++) {
            v = v * 1103515245 + 12345;
            Due.is("filled byte " + at, y.read(1, at), (v >> 16) & 255);
        }
    }

    private static void word() {
        GlulxHeads x = new GlulxHeads();
        Due.is("word(0), empty", x.word(0, 1), -1);
        x.fill(39, 3);
        Due.is("word(-4)", x.word(-4, 1), -1);
        Due.is("word(-1)", x.word(-1, 1), -1);
        Due.is("word(2)", x.word(2, 1), -1);
        Due.is("word(33)", x.word(33, 1), -1);
        Due.is("word(36), not whole", x.word(36, 1), -1);
        Due.is("word(40)", x.word(40, 1), -1);
        Due.is("word(max)", x.word(Integer.MAX_VALUE, 1), -1);
        Due.is("word(max - 3)", x.word(Integer.MAX_VALUE - 3, 1), -1);
        Due.is("word(min)", x.word(Integer.MIN_VALUE, 1), -1);
        x.fill(1, 3);
        Due.is("word(36), whole", x.word(36, 1), 1);
        for (int at = 0; at <= 36; at += 4) {
            x.word(at, 0);
        }
        x.word(4, 0x81020304);
        Due.is("the word is in its place", x.sum(), 0x81020304L);
    }

    private static void cut() {
        GlulxHeads x = new GlulxHeads();
        x.fill(100, 1);
        Due.is("cut(-1)", x.cut(-1), -1);
        Due.is("cut(101)", x.cut(101), -1);
        Due.is("cut(min)", x.cut(Integer.MIN_VALUE), -1);
        Due.is("cut(100)", x.cut(100), 0);
        Due.is("cut(40)", x.cut(40), 60);
        long before = x.sum();
        Due.is("fill behind a cut", x.fill(4, 1), 44);
        Due.is("cut(40)", x.cut(40), 4);
        Due.is("the first bytes are kept", x.sum(), before);
        Due.is("cut(35)", x.cut(35), 5);
        Due.is("verdict after cut", x.verdict(), 1);
        Due.is("cut(0)", x.cut(0), 35);
    }

    // Mends the faults of a head one by one, so that each verdict is seen ahead of the later ones.
    private static void verdictOrder() {
        GlulxHeads x = new GlulxHeads();
        x.fill(35, 1);
        Due.is("35 bytes", x.verdict(), 1);
        x.cut(0);
        x.feed(1, 1, 1, 1, 1);
        x.feed(1, 1, 1, 1, 1);
        x.cut(36);
        Due.is("other mark", x.verdict(), 2);
        x.word(0, Story.MARK);
        Due.is("version", x.verdict(), 3);
        x.word(4, 0x20000);
        Due.is("no multiples", x.verdict(), 4);
        x.word(8, 1024);
        x.word(12, 768);
        x.word(16, 512);
        Due.is("order of marks", x.verdict(), 5);
        x.word(8, 256);
        x.word(12, 512);
        x.word(16, 8192);
        Due.is("ext is not the length", x.verdict(), 6);
        x.fill(512 - 36, 1);
        x.word(20, 65536 + 255);
        x.word(24, 0);
        x.word(28, 9000);
        Due.is("stack", x.verdict(), 7);
        x.word(20, 65536 + 256);
        Due.is("start", x.verdict(), 8);
        x.word(24, 8191);
        Due.is("table", x.verdict(), 9);
        x.word(28, 8191);
        Due.is("end above 4096", x.verdict(), 10);
        x.word(16, 4096);
        x.word(24, 4095);
        x.word(28, 4095);
        Due.is("stack above 65536", x.verdict(), 10);
        x.word(20, 65536);
        Due.is("good", x.verdict(), 0);
    }

    private static void judged(int at, int v, int want) {
        GlulxHeads x = Story.file();
        x.word(at, v);
        Due.is("word(" + at + ", " + v + "), verdict()", x.verdict(), want);
        Due.is("word(" + at + ", " + v + "), load()", x.load(), want);
    }

    private static void verdictEdges() {
        judged(0, Story.MARK + 1, 2);
        judged(0, Story.MARK ^ 0x80000000, 2);
        judged(4, 0x1FFFF, 3);
        judged(4, 0x20000, 0);
        judged(4, 0x301FF, 0);
        judged(4, 0x30200, 3);
        judged(8, 255, 4);
        judged(8, 257, 4);
        judged(12, 511, 4);
        judged(16, 1025, 4);
        judged(8, 0, 5);
        judged(8, 512, 0);
        judged(8, 768, 5);
        judged(12, 0, 5);
        judged(12, 256, 6);
        judged(12, 768, 6);
        judged(16, 256, 5);
        judged(16, 512, 0);
        judged(20, 0, 7);
        judged(20, 255, 7);
        judged(20, 65536, 0);
        judged(20, 65792, 10);
        judged(24, 0, 8);
        judged(24, 35, 8);
        judged(24, 36, 0);
        judged(24, 1023, 0);
        judged(24, 1024, 8);
        judged(28, 0, 0);
        judged(28, 1, 9);
        judged(28, 35, 9);
        judged(28, 36, 0);
        judged(28, 1023, 0);
        judged(28, 1024, 9);
        judged(16, 4096, 0);
        judged(16, 4352, 10);
    }

    private static void verdictWithoutSign() {
        judged(4, -1, 3);
        judged(8, 0x80000000, 5);
        judged(12, 0x80000000, 5);
        judged(16, 0x80000000, 10);
        judged(16, 0xFFFFFF00, 10);
        judged(20, 0x80000000, 10);
        judged(24, 0x80000000, 8);
        judged(28, 0x80000000, 9);
        judged(28, -1, 9);
    }

    private static void sum() {
        GlulxHeads x = new GlulxHeads();
        Due.nothing("sum, empty", x.sum());
        x.feed(1, 2, 3, 4, 5);
        x.feed(6, 7, 8, 1000, 0);
        x.cut(35);
        Due.nothing("sum of 35 bytes", x.sum());
        x.cut(20);
        x.feed(6, 7, 8, 1000, 0x10203040);
        x.cut(36);
        Due.is("sum, that at 32 taken as 0", x.sum(), 36);
        x.cut(20);
        x.feed(6, 7, 8, 1000, 0x10203040);
        x.cut(37);
        Due.is("sum, last word of one byte", x.sum(), 36 + 0x10000000L);
        x.cut(20);
        x.feed(6, 7, 8, 1000, 0x10203040);
        x.cut(39);
        Due.is("sum, last word of three bytes", x.sum(), 36 + 0x10203000L);
    }

    private static void sumWraps() {
        GlulxHeads x = new GlulxHeads();
        x.feed(-1, -1, 0, 0, 0);
        x.feed(0, 0, 0, -1, 0);
        Due.is("sum modulo 2^32", x.sum(), 0xFFFFFFFEL);
        x.word(8, 2);
        Due.is("sum modulo 2^32 is 0", x.sum(), 0);
    }

    private static void load() {
        GlulxHeads x = Story.file();
        long right = x.sum();
        Due.is("load, sum not right", x.load(), 0);
        Due.is("told(15)", x.told(15), 0);
        x.word(32, (int) right);
        Due.is("sum does not count itself", x.sum(), right);
        Due.is("told(15) is as loaded", x.told(15), 0);
        Due.is("load, sum right", x.load(), 0);
        Due.is("told(15)", x.told(15), 1);
        x.word(32, (int) right + 1);
        Due.is("told(15) is as loaded", x.told(15), 1);
        Due.is("load, sum not right", x.load(), 0);
        Due.is("told(15)", x.told(15), 0);
        Due.is("0 up to END", x.hash(Story.EXT, Story.END - Story.EXT), 0);
        Due.noCell(x, Story.END);
    }

    private static void loadInsteadOfBefore() {
        GlulxHeads x = Story.loaded(256, 768, 2048);
        x.write(4, 600, -1);
        x.save();
        x.block(700);
        x.save();
        x.read(1, -7);
        x.protect(256, 4000);
        Story.put(x, 512, 512, 768);
        Due.is("load again", x.load(), 0);
        Due.is("M", x.told(9), 768);
        Due.is("heap", x.told(10), 0);
        Due.is("blocks", x.told(11), 0);
        Due.is("states", x.told(12), 0);
        Due.is("fault", x.told(13), 0);
        Due.is("its place", x.told(14), 0);
        Due.is("restore", x.restore(), -3);
        Due.is("0 behind the file", x.read(4, 600), 0);
        Due.is("RAM of the new one", x.write(1, 511, 1), -3);
        x.write(1, 512, 9);
        x.restart();
        Due.is("nothing protected", x.read(1, 512), 0);
        x.resize(2048);
        Due.is("0 beyond END", x.hash(512, 1536), 0);
    }

    private static void loadStays() {
        GlulxHeads x = Story.loaded();
        int before = x.hash(0, 1024);
        x.word(12, 513);
        x.word(300, 1);
        Due.is("load refused", x.load(), 4);
        Due.is("the machine stays", x.told(9), 1024);
        Due.is("its head stays", x.told(3), 512);
        Due.is("its memory stays", x.hash(0, 1024), before);
        x.cut(0);
        Due.is("load refused", x.load(), 1);
        x.write(4, 300, 5);
        x.restart();
        Due.is("what was loaded stays", x.hash(0, 1024), before);
        Due.is("what was loaded stays", x.changed(1), 0);
    }
}
