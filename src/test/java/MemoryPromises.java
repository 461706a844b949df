/** Promises 9 to 21: the MACHINE. */
public final class MemoryPromises {
    private static final int MIN = Integer.MIN_VALUE;
    private static final int MAX = Integer.MAX_VALUE;

    public static void main(String[] args) {
        told();
        read();
        write();
        faultsStay();
        resize();
        resizeRefused();
        block();
        blockEnds();
        sixteenBlocks();
        blockBytes();
        free();
        protect();
        restart();
        restartRange();
        save();
        restore();
        restoreRange();
        changed();
        hash();
        hashOfAll();
        cell();
        Due.end();
    }

    private static void told() {
        GlulxHeads x = Story.file();
        x.word(20, 65536);
        x.word(28, 40);
        x.word(32, -3);
        x.load();
        long[] head = {Story.MARK, 0x30102, 256, 512, 1024, 65536, 36, 40, 0xFFFFFFFDL};
        x.cut(0);
        for (int what = 0; what < head.length; what++) {
            Due.is("told(" + what + ")", x.told(what), head[what]);
        }
        Due.is("told(9)", x.told(9), 1024);
        for (int what = 10; what <= 15; what++) {
            Due.is("told(" + what + ")", x.told(what), 0);
        }
        Due.nothing("told(-1)", x.told(-1));
        Due.nothing("told(16)", x.told(16));
        Due.nothing("told(min)", x.told(MIN));
        Due.nothing("told(max)", x.told(MAX));
        x.block(10);
        x.block(10);
        x.save();
        Due.is("told(9)", x.told(9), 1280);
        Due.is("told(10)", x.told(10), 1024);
        Due.is("told(11)", x.told(11), 2);
        Due.is("told(12)", x.told(12), 1);
    }

    private static void read() {
        GlulxHeads x = Story.loaded();
        x.write(4, 1020, 0x81F2E3D4);
        Due.is("read 1", x.read(1, 1020), 0x81);
        Due.is("read 2", x.read(2, 1020), 0x81F2);
        Due.is("read 4", x.read(4, 1020), 0x81F2E3D4L);
        Due.is("read 2, odd place", x.read(2, 1021), 0xF2E3);
        Due.is("read 2, at the end", x.read(2, 1022), 0xE3D4);
        Due.is("read 1, at the end", x.read(1, 1023), 0xD4);
        Due.is("no fault", x.told(13), 0);
        for (int width : new int[] {0, 3, 5, 8, -1, -4, MIN, MAX}) {
            Due.nothing("read width " + width, x.read(width, 0));
            Due.nothing("read width and place " + width, x.read(width, -9));
        }
        Due.is("another width is no fault", x.told(13), 0);
        readFault(x, 1, 1024);
        readFault(x, 2, 1023);
        readFault(x, 4, 1021);
        readFault(x, 4, -1);
        readFault(x, 2, -2);
        readFault(x, 1, MIN);
        readFault(x, 1, MAX);
        readFault(x, 4, MAX - 2);
    }

    private static void readFault(GlulxHeads x, int width, int at) {
        x.write(1, 0, 0);
        Due.nothing("read(" + width + ", " + at + ")", x.read(width, at));
        Due.is("its fault", x.told(13), 1);
        Due.is("its place", x.told(14), at);
    }

    private static void write() {
        GlulxHeads x = Story.loaded(512, 512, 1024);
        Due.is("write 4", x.write(4, 600, 0x11223344), 1);
        Due.is("write 2", x.write(2, 601, 0x5566AABB), 1);
        Due.is("read it", x.read(4, 600), 0x11AABB44L);
        Due.is("write 1", x.write(1, 603, -1), 1);
        Due.is("read it", x.read(4, 600), 0x11AABBFFL);
        Due.is("beside it", x.read(4, 596), 0);
        Due.is("beside it", x.read(4, 604), 0);
        Due.is("write at RAM", x.write(1, 512, 3), 1);
        Due.is("write at the end", x.write(4, 1020, 3), 1);
        Due.is("no fault", x.told(13), 0);
        for (int width : new int[] {0, 3, 5, -1, MIN, MAX}) {
            Due.is("write width " + width, x.write(width, 600, 0), -2);
            Due.is("write width, ahead of the fault", x.write(width, 0, 0), -2);
        }
        Due.is("another width is no fault", x.told(13), 0);
        int before = x.hash(0, 1024);
        writeFault(x, 1, 511, 2);
        writeFault(x, 4, 511, 2);
        writeFault(x, 4, 0, 2);
        writeFault(x, 1, -1, 2);
        writeFault(x, 4, MIN, 2);
        writeFault(x, 1, 1024, 3);
        writeFault(x, 2, 1023, 3);
        writeFault(x, 4, 1021, 3);
        writeFault(x, 4, MAX, 3);
        Due.is("faults write nothing", x.hash(0, 1024), before);

        GlulxHeads y = Story.loaded(512, 512, 512);
        writeFault(y, 4, 510, 2);
        writeFault(y, 1, 512, 3);
    }

    private static void writeFault(GlulxHeads x, int width, int at, int fault) {
        x.read(1, MAX);
        Due.is("write(" + width + ", " + at + ")", x.write(width, at, -1), -3);
        Due.is("its fault", x.told(13), fault);
        Due.is("its place", x.told(14), at);
    }

    private static void faultsStay() {
        GlulxHeads x = Story.loaded();
        x.save();
        x.write(2, 1023, 1);
        x.write(2, 1000, 1);
        x.read(2, 1000);
        x.hash(0, 9999);
        Due.noCell(x, 9999);
        x.restart();
        Due.is("fault after restart", x.told(13), 3);
        x.restore();
        Due.is("fault after restore", x.told(13), 3);
        Due.is("its place", x.told(14), 1023);
    }

    private static void resize() {
        GlulxHeads x = Story.loaded();
        Due.is("resize as it is", x.resize(1024), 0);
        Due.is("resize(4096)", x.resize(4096), 0);
        Due.is("M", x.told(9), 4096);
        Due.is("new bytes", x.hash(1024, 3072), 0);
        Due.is("write at the end", x.write(4, 4092, -1), 1);
        x.write(4, 1020, -1);
        Due.is("resize(4096), as it is", x.resize(4096), 0);
        Due.is("still there", x.read(4, 4092), 0xFFFFFFFFL);
        Due.is("resize(3840)", x.resize(3840), 0);
        Due.nothing("beyond M", x.read(1, 3840));
        Due.is("resize(4096)", x.resize(4096), 0);
        Due.is("new bytes are 0", x.read(4, 4092), 0);
        Due.is("resize(END)", x.resize(1024), 0);
        Due.is("below M it stays", x.read(4, 1020), 0xFFFFFFFFL);
    }

    private static void resizeRefused() {
        GlulxHeads x = Story.loaded();
        x.resize(1280);
        for (int n : new int[] {0, -256, 768, 1025, 1279, 1281, 4095, 4097, 4352, 8192, MIN, MAX, MAX - 255}) {
            Due.is("resize(" + n + ")", x.resize(n), 1);
            Due.is("M", x.told(9), 1280);
        }
        x.block(1);
        Due.is("resize, the heap stands", x.resize(1280), 1);
        Due.is("resize, the heap stands", x.resize(2048), 1);
        x.free(1280);
        Due.is("resize, the heap is gone", x.resize(2048), 0);
    }

    private static void block() {
        GlulxHeads x = Story.loaded();
        Due.is("block(0)", x.block(0), -2);
        Due.is("block(-1)", x.block(-1), -2);
        Due.is("block(min)", x.block(MIN), -2);
        Due.is("block(max)", x.block(MAX), 0);
        Due.is("block(7169)", x.block(7169), 0);
        Due.is("no heap by that", x.told(10), 0);
        Due.is("no heap by that", x.told(9), 1024);
        x.resize(1280);
        Due.is("block(256)", x.block(256), 1280);
        Due.is("M is a multiple already", x.told(9), 1536);
        Due.is("heap", x.told(10), 1280);
        Due.is("block(1)", x.block(1), 1536);
        Due.is("M", x.told(9), 1792);
        Due.is("block(255)", x.block(255), 1537);
        Due.is("M", x.told(9), 1792);
        Due.is("block(10)", x.block(10), 1792);
        x.free(1537);
        x.free(1280);
        Due.is("least place", x.block(100), 1280);
        Due.is("least place", x.block(100), 1380);
        Due.is("too small a gap", x.block(57), 1537);
        Due.is("just the gap", x.block(56), 1480);
        Due.is("just the gap", x.block(198), 1594);
        Due.is("no gap any more", x.block(1), 1802);
        Due.is("blocks", x.told(11), 8);
        Due.is("heap", x.told(10), 1280);
    }

    private static void blockEnds() {
        GlulxHeads x = Story.loaded();
        Due.is("up to 8192", x.block(7168), 1024);
        Due.is("M", x.told(9), 8192);
        Due.is("no byte left", x.block(1), 0);
        Due.is("the last byte", x.write(1, 8191, 200), 1);
        Due.is("the last byte", x.read(1, 8191), 200);
        Due.is("free", x.free(1024), 7168);
        Due.is("block(7167)", x.block(7167), 1024);
        Due.is("M up to a multiple", x.told(9), 8192);
        Due.is("two are too many", x.block(2), 0);
        Due.is("max is too many", x.block(MAX), 0);
        Due.is("the last one", x.block(1), 8191);
    }

    private static void sixteenBlocks() {
        GlulxHeads x = Story.loaded();
        for (int i = 0; i < 16; i++) {
            Due.is("block(7)", x.block(7), 1024 + 7 * i);
        }
        Due.is("a 17th", x.block(7), 0);
        Due.is("a 17th below 1", x.block(0), -2);
        Due.is("blocks", x.told(11), 16);
        Due.is("free", x.free(1024 + 7 * 9), 7);
        Due.is("a 16th again", x.block(8), 1024 + 7 * 16);
        Due.is("a 17th", x.block(7), 0);
        for (int i = 0; i <= 16; i++) {
            Due.is("free", x.free(1024 + 7 * i), i == 9 ? -1 : i == 16 ? 8 : 7);
        }
        Due.is("M", x.told(9), 1024);
    }

    private static void blockBytes() {
        GlulxHeads x = Story.loaded();
        x.block(300);
        x.block(10);
        x.write(4, 1100, 77);
        x.write(4, 1532, 99);
        x.free(1024);
        Due.is("bytes of a block that went", x.read(4, 1100), 77);
        Due.is("its place again", x.block(200), 1024);
        Due.is("they stay", x.read(4, 1100), 77);
        Due.is("a block over bytes that were memory", x.block(300), 1334);
        Due.is("they stay", x.read(4, 1532), 99);
        x.free(1024);
        x.free(1324);
        x.free(1334);
        Due.is("M", x.told(9), 1024);
        Due.is("block", x.block(600), 1024);
        Due.is("0 when it comes again", x.hash(1024, 768), 0);
        x.write(4, 1100, 77);
        x.free(1024);
        x.resize(2048);
        Due.is("0 when it comes by resize", x.hash(1024, 1024), 0);
    }

    private static void free() {
        GlulxHeads x = Story.loaded();
        Due.is("free, none", x.free(1024), -1);
        Due.is("free(0), none", x.free(0), -1);
        x.block(100);
        x.block(1000);
        for (int at : new int[] {0, -1, 1023, 1025, 1123, 1125, 2124, MIN, MAX}) {
            Due.is("free(" + at + ")", x.free(at), -1);
        }
        Due.is("M", x.told(9), 2304);
        Due.is("free the last one", x.free(1124), 1000);
        Due.is("M stays", x.told(9), 2304);
        Due.is("free twice", x.free(1124), -1);
        Due.is("M is not below what it was", x.block(50), 1124);
        Due.is("M", x.told(9), 2304);
        Due.is("free", x.free(1024), 100);
        Due.is("the heap began where it did", x.told(10), 1024);
        Due.is("free the last of all", x.free(1124), 50);
        Due.is("M where the heap began", x.told(9), 1024);
        Due.is("no heap", x.told(10), 0);
        Due.is("no blocks", x.told(11), 0);
        x.resize(1536);
        Due.is("a heap elsewhere", x.block(5), 1536);
        Due.is("a heap elsewhere", x.told(10), 1536);
    }

    private static void protect() {
        GlulxHeads x = Story.loaded();
        x.write(4, 300, 1);
        x.write(4, 400, 2);
        Due.is("protect", x.protect(300, 4), 1);
        Due.is("below 0", x.protect(-1, 1), -2);
        Due.is("below 0", x.protect(1, -1), -2);
        Due.is("above 8192", x.protect(8193, 1), -2);
        Due.is("above 8192", x.protect(1, 8193), -2);
        Due.is("far", x.protect(MIN, MAX), -2);
        Due.is("far", x.protect(MAX, MIN), -2);
        x.restart();
        Due.is("refusals change nothing", x.read(4, 300), 1);
        Due.is("only the range", x.changed(1), 1);
        x.write(4, 400, 2);
        Due.is("another range", x.protect(400, 8192), 1);
        x.restart();
        Due.is("the range before is none", x.changed(1), 1);
        Due.is("the new range", x.read(4, 400), 2);
        Due.is("8192", x.protect(8192, 8192), 1);
        x.restart();
        Due.is("nothing in the range", x.changed(1), 0);
        x.write(4, 400, 2);
        Due.is("all", x.protect(0, 8192), 1);
        x.restart();
        Due.is("all stays", x.read(4, 400), 2);
        Due.is("none", x.protect(400, 0), 1);
        x.restart();
        Due.is("nothing stays", x.changed(1), 0);
    }

    private static void restart() {
        GlulxHeads x = Story.loaded();
        int before = x.hash(0, 1024);
        x.write(4, 256, 1);
        x.write(4, 1020, 1);
        x.resize(2048);
        x.block(100);
        x.save();
        Due.is("restart", x.restart(), 1024);
        Due.is("M", x.told(9), 1024);
        Due.is("heap", x.told(10), 0);
        Due.is("blocks", x.told(11), 0);
        Due.is("what is saved stays", x.told(12), 1);
        Due.is("as loaded", x.hash(0, 1024), before);
        Due.is("no block", x.free(2048), -1);
        Due.is("resize", x.resize(1280), 0);
    }

    private static void restartRange() {
        GlulxHeads x = Story.loaded();
        x.resize(1536);
        for (int at = 1000; at < 1100; at++) {
            x.write(1, at, 5);
        }
        x.protect(1010, 50);
        x.restart();
        Due.is("ahead of the range", x.read(1, 1009), 0);
        Due.is("its first byte", x.read(1, 1010), 5);
        Due.is("the last below M then", x.read(1, 1023), 5);
        x.resize(1536);
        Due.is("beyond M then", x.hash(1024, 512), 0);
        x.write(1, 1011, 8);
        x.protect(1010, 1);
        x.restart();
        Due.is("the range of one", x.read(2, 1010), 0x0500);
    }

    private static void save() {
        GlulxHeads x = Story.loaded();
        for (int i = 1; i <= 4; i++) {
            x.write(1, 300, i);
            Due.is("save", x.save(), Math.min(i, 2));
            Due.is("states", x.told(12), Math.min(i, 2));
        }
        x.write(1, 300, 9);
        Due.is("restore", x.restore(), 1024);
        Due.is("the latest", x.read(1, 300), 4);
        Due.is("states", x.told(12), 1);
        Due.is("restore", x.restore(), 1024);
        Due.is("the one before", x.read(1, 300), 3);
        Due.is("the eldest are out", x.restore(), -3);
        Due.is("nothing changed", x.read(1, 300), 3);
        x.write(1, 300, 6);
        Due.is("save", x.save(), 1);
        x.write(1, 300, 7);
        Due.is("save", x.save(), 2);
        x.restore();
        x.write(1, 300, 8);
        Due.is("save", x.save(), 2);
        x.write(1, 300, 0);
        x.restore();
        Due.is("the latest", x.read(1, 300), 8);
        x.restore();
        Due.is("the one before", x.read(1, 300), 6);
    }

    private static void restore() {
        GlulxHeads x = Story.loaded();
        Due.is("restore, none", x.restore(), -3);
        x.resize(1280);
        x.block(100);
        x.block(300);
        x.block(50);
        x.free(1380);
        x.write(1, 1500, 44);
        int before = x.hash(0, 1792);
        x.save();
        x.restart();
        x.block(900);
        x.write(4, 1500, -1);
        Due.is("restore", x.restore(), 1792);
        Due.is("M", x.told(9), 1792);
        Due.is("heap", x.told(10), 1280);
        Due.is("blocks", x.told(11), 2);
        Due.is("memory", x.hash(0, 1792), before);
        Due.is("the blocks of then", x.free(1024), -1);
        Due.is("the gap of then", x.block(300), 1380);
        Due.is("free", x.free(1280), 100);
        Due.is("free", x.free(1680), 50);
        Due.is("free", x.free(1380), 300);
        Due.is("M where the heap began", x.told(9), 1280);
        x.save();
        x.block(4000);
        x.write(4, 2000, -1);
        Due.is("restore a smaller one", x.restore(), 1280);
        Due.is("no heap", x.told(10), 0);
        x.resize(4096);
        Due.is("0 beyond", x.hash(1280, 2816), 0);
    }

    private static void restoreRange() {
        GlulxHeads x = Story.loaded();
        x.write(1, 500, 1);
        x.resize(2048);
        x.write(4, 1500, 1);
        x.save();
        x.restart();
        x.write(1, 500, 2);
        x.write(1, 501, 2);
        x.protect(500, 1001);
        Due.is("restore", x.restore(), 2048);
        Due.is("in the range", x.read(2, 500), 0x0202);
        Due.is("in the range, but beyond M before", x.read(4, 1500), 1);
        x.write(1, 1400, 3);
        x.save();
        x.write(1, 1400, 4);
        x.write(1, 1501, 4);
        x.restore();
        Due.is("in the range", x.read(1, 1400), 4);
        Due.is("behind the range", x.read(1, 1501), 0);
        x.protect(0, 0);
        x.save();
        x.write(1, 1400, 5);
        x.restore();
        Due.is("no range", x.read(1, 1400), 4);
    }

    private static void changed() {
        GlulxHeads x = Story.loaded();
        for (int page = 0; page < 4; page++) {
            Due.is("changed(" + page + ")", x.changed(page), 0);
        }
        for (int page : new int[] {-1, 4, MIN, MAX, 1 << 24}) {
            Due.is("changed(" + page + ")", x.changed(page), -1);
        }
        x.write(1, 511, (int) x.read(1, 511) ^ 128);
        x.write(1, 768, 1);
        Due.is("its last byte", x.changed(1), 1);
        Due.is("beside it", x.changed(2), 0);
        Due.is("its first byte", x.changed(3), 1);
        x.write(1, 768, 0);
        Due.is("as it was", x.changed(3), 0);
        x.resize(1280);
        Due.is("new, 0", x.changed(4), 0);
        x.write(1, 1279, 255);
        Due.is("new, not 0", x.changed(4), 1);
        Due.is("beyond M", x.changed(5), -1);
        x.block(6900);
        x.write(1, 8191, 1);
        Due.is("the last page", x.changed(31), 1);
        Due.is("beyond it", x.changed(32), -1);
        x.restart();
        Due.is("after restart", x.changed(1), 0);
    }

    private static void hash() {
        GlulxHeads x = Story.loaded();
        Due.is("one byte", x.hash(0, 1), 0x47);
        Due.is("two bytes", x.hash(0, 2), 31 * 0x47 + 0x6C);
        x.write(4, 600, 0xFF80FF80);
        int s = 0;
        for (int b : new int[] {255, 128, 255, 128, 0, 0, 0, 0}) {
            s = 31 * s + b;
        }
        Due.is("bytes without sign", x.hash(600, 8), s);
        Due.is("none", x.hash(0, 0), 0);
        Due.is("none at M", x.hash(1024, 0), 0);
        Due.is("none above M", x.hash(1025, 0), -1);
        Due.is("none below 0", x.hash(-1, 0), -1);
        Due.is("up to M", x.hash(1020, 4), 0);
        Due.is("beyond M", x.hash(1020, 5), -1);
        Due.is("beyond M", x.hash(1024, 1), -1);
        Due.is("below 0", x.hash(-1, 2), -1);
        Due.is("far", x.hash(MAX, MAX), -1);
        Due.is("far", x.hash(MIN, MAX), -1);
        Due.is("far", x.hash(1, MAX), -1);
        Due.is("n below 0", x.hash(0, -1), -2);
        Due.is("n below 0, first", x.hash(-1, -1), -2);
        Due.is("n below 0, first", x.hash(MAX, MIN), -2);
        Due.is("no fault", x.told(13), 0);
    }

    private static void hashOfAll() {
        GlulxHeads x = Story.loaded(256, 256, 256);
        int s = 0;
        for (int at = 0; at < 256; at++) {
            s = 31 * s + (int) x.read(1, at);
        }
        Due.is("all of memory", x.hash(0, 256), s);
        Due.is("one byte more", x.hash(0, 257), -1);
    }

    private static void cell() {
        GlulxHeads x = Story.loaded();
        x.write(2, 1022, 0xFE80);
        Due.cell(x, 0, 0x47);
        Due.cell(x, 1022, 0xFE);
        Due.cell(x, 1023, 0x80);
        for (int at : new int[] {-1, 1024, 8191, 8192, MIN, MAX}) {
            Due.noCell(x, at);
        }
        Due.is("no fault", x.told(13), 0);
        x.resize(1280);
        Due.cell(x, 1024, 0);
    }
}
