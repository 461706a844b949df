/** "Terms", PROTECTED, RESTART, SAVED and RESTORE, sentence by sentence. */
public final class StateTerms {
    private static final String TERMS = "Terms";

    private StateTerms() {
    }

    public static void run() {
        noneAtFirst();
        restart();
        atMostTwo();
        thirdPutsOut();
        latestComesBack();
        stateHasAll();
        leaveRange();
        leaveBelowBoth();
        leaveInHeap();
    }

    private static void noneAtFirst() {
        Due.sentence(TERMS, "PROTECTED is a range of places (none at first).");
        GlulxHeads x = Story.loaded();
        int all = x.hash(0, 1024);
        x.save();
        fillRam(x, 77);
        x.restart();
        Due.is("after restart", x.hash(0, 1024), all);
        fillRam(x, 77);
        x.restore();
        Due.is("after restore", x.hash(0, 1024), all);
        x.protect(300, 1);
        fillRam(x, 77);
        x.restart();
        Due.is("a range of one place", x.read(1, 300), 77);
        Due.is("no place ahead of it", x.hash(0, 300), Story.loaded().hash(0, 300));
        Due.is("no place behind it", x.hash(301, 723), Story.loaded().hash(301, 723));
    }

    private static void fillRam(GlulxHeads x, int v) {
        for (int at = 256; at < 1024; at += 64) {
            x.write(4, at + 44, v << 24 | v);
        }
    }

    private static void restart() {
        Due.sentence(TERMS, "RESTART: MEMORY as LOADED, M is END, THE HEAP is gone.");
        GlulxHeads x = Story.loaded();
        int all = x.hash(0, 1024);
        Due.is("as it was: M", x.restart(), 1024);
        Due.is("as it was", x.hash(0, 1024), all);
        x.write(1, 256, (int) x.read(1, 256) + 1);
        x.write(1, 1023, 1);
        Due.is("another MEMORY", x.hash(0, 1024) == all ? 1 : 0, 0);
        x.restart();
        Due.is("MEMORY", x.hash(0, 1024), all);
        x.resize(4096);
        Due.is("M was above END", x.restart(), 1024);
        Due.is("told", x.told(9), 1024);
        Due.nothing("END", x.read(1, 1024));
        x.resize(1280);
        x.block(7);
        Due.is("THE HEAP stood", x.restart(), 1024);
        Due.is("it is gone", x.told(10), 0);
        Due.is("and its BLOCKS", x.told(11), 0);
        Due.is("none can be freed", x.free(1280), -1);
        Due.is("resize can be", x.resize(1280), 0);
        Due.is("0 in it", x.hash(1024, 256), 0);
        for (int i = 0; i < 16; i++) {
            Due.is("16 BLOCKS can come", x.block(1), 1280 + i);
        }
    }

    private static void atMostTwo() {
        Due.sentence(TERMS, "SAVED are at most two STATES");
        GlulxHeads x = Story.loaded();
        Due.is("none", x.told(12), 0);
        for (int i = 1; i <= 5; i++) {
            Due.is("save " + i, x.save(), i == 1 ? 1 : 2);
            Due.is("SAVED", x.told(12), i == 1 ? 1 : 2);
        }
        Due.is("restore", x.restore(), 1024);
        Due.is("restore", x.restore(), 1024);
        Due.is("no third", x.restore(), -3);
    }

    /** Saves what a STATE shows by one byte. */
    private static void save(GlulxHeads x, int v) {
        x.write(1, 300, v);
        x.save();
    }

    private static void restored(GlulxHeads x, int v) {
        x.write(1, 300, 99);
        Due.is("restore", x.restore(), 1024);
        Due.is("the STATE " + v, x.read(1, 300), v);
    }

    private static void thirdPutsOut() {
        Due.sentence(TERMS, "the third one puts out the eldest.");
        GlulxHeads x = Story.loaded();
        save(x, 1);
        save(x, 2);
        restored(x, 2);
        restored(x, 1);
        save(x, 1);
        save(x, 2);
        save(x, 3);
        restored(x, 3);
        restored(x, 2);
        Due.is("the eldest is out", x.restore(), -3);
        save(x, 1);
        save(x, 2);
        save(x, 3);
        save(x, 4);
        restored(x, 4);
        save(x, 5);
        save(x, 6);
        restored(x, 6);
        restored(x, 5);
        Due.is("3 is out", x.restore(), -3);
    }

    private static void latestComesBack() {
        Due.sentence(TERMS, "RESTORE: the latest STATE comes back, and is not SAVED any more.");
        GlulxHeads x = Story.loaded();
        save(x, 1);
        restored(x, 1);
        Due.is("not SAVED any more", x.told(12), 0);
        Due.is("none comes back", x.restore(), -3);
        save(x, 2);
        save(x, 3);
        restored(x, 3);
        Due.is("one is SAVED still", x.told(12), 1);
        x.write(1, 300, 4);
        x.restart();
        restored(x, 2);
        Due.is("none is", x.told(12), 0);
        save(x, 5);
        x.write(1, 300, 6);
        restored(x, 5);
        // What came back is a copy of its own: it can be written without a trace in what is SAVED.
        save(x, 7);
        save(x, 7);
        restored(x, 7);
        x.write(1, 300, 8);
        restored(x, 7);
    }

    private static void stateHasAll() {
        Due.sentence(TERMS, "(MEMORY, M, BLOCKS),");
        GlulxHeads x = Story.loaded();
        x.resize(1280);
        x.block(300);
        x.block(10);
        x.block(500);
        x.free(1580);
        x.write(4, 1700, 0x01020304);
        int all = x.hash(0, 2304);
        Due.is("save", x.save(), 1);
        x.restart();
        x.resize(2048);
        x.block(6144);
        x.write(4, 1700, -1);
        x.write(4, 8188, -1);
        Due.is("restore: M", x.restore(), 2304);
        Due.is("M", x.told(9), 2304);
        Due.is("MEMORY", x.hash(0, 2304), all);
        Due.nothing("none beyond", x.read(1, 2304));
        Due.is("BLOCKS", x.told(11), 2);
        Due.is("where THE HEAP began", x.told(10), 1280);
        Due.is("no BLOCK of what was left", x.free(2048), -1);
        Due.is("the gap", x.block(10), 1580);
        Due.is("behind all", x.block(300), 2090);
        Due.is("0 there", x.hash(2304, 256), 0);
        x.free(2090);
        x.free(1580);
        Due.is("the first BLOCK", x.free(1280), 300);
        Due.is("the last BLOCK", x.free(1590), 500);
        Due.is("M where THE HEAP began", x.told(9), 1280);
        x.save();
        x.block(50);
        Due.is("restore without a HEAP: M", x.restore(), 1280);
        Due.is("no HEAP", x.told(10), 0);
        Due.is("no BLOCKS", x.told(11), 0);
        Due.is("no BLOCK", x.free(1280), -1);
        Due.is("resize", x.resize(1024), 0);
    }

    private static void leaveRange() {
        Due.sentence(TERMS, "Both leave each byte of the range as it was,");
        GlulxHeads x = Story.loaded();
        for (int way = 0; way < 2; way++) {
            x.restart();
            if (way == 1) {
                x.save();
            }
            for (int at = 596; at < 612; at++) {
                x.write(1, at, 5);
            }
            x.protect(600, 8);
            int m = way == 0 ? x.restart() : x.restore();
            Due.is("M", m, 1024);
            Due.is("ahead of the range", x.read(4, 596), 0);
            Due.is("its first four", x.read(4, 600), 0x05050505);
            Due.is("its last four", x.read(4, 604), 0x05050505);
            Due.is("behind it", x.read(4, 608), 0);
            x.protect(0, 0);
        }
        // A byte that stays counts as changed, as any other one does.
        x.protect(600, 1);
        x.restart();
        Due.is("the range of one", x.read(2, 600), 0x0500);
        Due.is("changed", x.changed(2), 1);
        x.write(1, 600, 6);
        x.protect(601, 1);
        x.restart();
        Due.is("just behind", x.read(2, 600), 0);
    }

    private static void leaveBelowBoth() {
        Due.sentence(TERMS, "that is below M before and then.");
        GlulxHeads x = Story.loaded();
        x.resize(1280);
        x.write(4, 1022, 0x11223344);
        x.protect(1000, 280);
        x.restart();
        Due.is("M before 1280, then 1024: below both", x.read(2, 1022), 0x1122);
        x.resize(1280);
        Due.is("not below M then", x.read(2, 1024), 0);
        x.write(4, 1022, 0x55667788);
        x.save();
        x.resize(1024);
        x.write(2, 1022, 0x99AA);
        x.restore();
        Due.is("M before 1024, then 1280", x.read(4, 1022), 0x99AA7788L);
        x.save();
        x.write(4, 1022, 0x01020304);
        x.write(1, 1279, 9);
        x.restore();
        Due.is("below both, all of it", x.read(4, 1022), 0x01020304);
        Due.is("the last place below M", x.read(1, 1279), 9);
        x.protect(8192, 8192);
        x.save();
        x.write(1, 1279, 10);
        x.restore();
        Due.is("a range beyond all", x.read(1, 1279), 9);
        x.protect(1279, 8192);
        x.write(1, 1278, 7);
        x.save();
        x.write(2, 1278, 0x080B);
        x.restore();
        Due.is("a range that ends behind 8192", x.read(2, 1278), 0x070B);
    }

    private static void leaveInHeap() {
        GlulxHeads x = Story.loaded();
        x.block(7168);
        x.write(4, 8188, 0x01010101);
        x.save();
        x.write(4, 8188, 0x02020202);
        x.write(4, 1024, 0x02020202);
        x.protect(8190, 2);
        Due.is("restore", x.restore(), 8192);
        Due.is("up to the last place of all", x.read(4, 8188), 0x01010202);
        Due.is("ahead of the range", x.read(4, 1024), 0);
        x.write(4, 1020, -1);
        x.write(4, 1024, -1);
        x.protect(1023, 100);
        x.restart();
        Due.is("one byte of it is below END", x.read(4, 1020), 255);
        x.block(256);
        Due.is("the others are gone", x.hash(1024, 256), 0);
    }
}
