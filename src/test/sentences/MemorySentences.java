/** Promises 9 to 14, sentence by sentence. */
public final class MemorySentences {
    private static final int MIN = Integer.MIN_VALUE;
    private static final int MAX = Integer.MAX_VALUE;

    private MemorySentences() {
    }

    public static void run() {
        toldHead();
        toldSize();
        toldHeap();
        toldStates();
        toldFault();
        toldFaultPlace();
        toldSum();
        toldRefused();
        read();
        readRefused();
        write();
        writeRefused();
        writeFault();
        resize();
        resizeNot();
        resizeNewBytes();
        block();
        blockNone();
        blockRefused();
        free();
        freeRefused();
    }

    private static void toldHead() {
        Due.sentence("Promise 9", "Of the MACHINE: 0 to 8 WORDS of its HEAD as LOADED,");
        GlulxHeads x = Story.file(512, 768, 1280);
        x.word(20, 512);
        x.word(24, 38);
        x.word(28, 39);
        x.word(32, -7);
        x.load();
        x.cut(0);
        long[] head = {Story.MARK, 0x30102, 512, 768, 1280, 512, 38, 39, 4294967289L};
        for (int what = 0; what <= 8; what++) {
            Due.is("told(" + what + ")", x.told(what), head[what]);
        }
        Due.nothing("told(-1)", x.told(-1));
        x.resize(1536);
        Due.is("END is as LOADED", x.told(4), 1280);
        Due.is("told(9) is M", x.told(9), 1536);
    }

    private static void toldSize() {
        Due.sentence("Promise 9", "9 M,");
        GlulxHeads x = Story.loaded(256, 256, 256);
        Due.is("M", x.told(9), 256);
        x.resize(4096);
        Due.is("after resize", x.told(9), 4096);
        x.block(4096);
        Due.is("after block", x.told(9), 8192);
        x.free(4096);
        Due.is("after free", x.told(9), 4096);
        x.restart();
        Due.is("after restart", x.told(9), 256);
    }

    private static void toldHeap() {
        Due.sentence("Promise 9", "10 where THE HEAP began (0: there is none), 11 BLOCKS,");
        GlulxHeads x = Story.loaded();
        Due.is("there is none", x.told(10), 0);
        Due.is("no BLOCKS", x.told(11), 0);
        x.block(MAX);
        x.block(0);
        Due.is("there is none", x.told(10), 0);
        Due.is("no BLOCKS", x.told(11), 0);
        for (int i = 1; i <= 17; i++) {
            x.block(1);
            Due.is("where it began", x.told(10), 1024);
            Due.is("BLOCKS", x.told(11), Math.min(i, 16));
        }
        for (int i = 15; i >= 0; i--) {
            x.free(1024 + i);
            Due.is("where it began", x.told(10), i == 0 ? 0 : 1024);
            Due.is("BLOCKS", x.told(11), i);
        }
    }

    private static void toldStates() {
        Due.sentence("Promise 9", "12 STATES that are SAVED,");
        GlulxHeads x = Story.loaded();
        int[] due = {1, 2, 2};
        Due.is("none", x.told(12), 0);
        for (int i = 0; i < 3; i++) {
            x.save();
            Due.is("after save " + i, x.told(12), due[i]);
        }
        x.restart();
        Due.is("after restart", x.told(12), 2);
        for (int i = 1; i >= -1; i--) {
            x.restore();
            Due.is("after restore", x.told(12), Math.max(0, i));
        }
    }

    private static void toldFault() {
        Due.sentence("Promise 9", "13 the latest FAULT (0: none),");
        GlulxHeads x = Story.loaded();
        Due.is("none", x.told(13), 0);
        x.read(4, 1020);
        x.write(4, 1020, 1);
        x.write(1, 256, 1);
        Due.is("none by what is good", x.told(13), 0);
        x.read(3, 9999);
        x.write(3, 9999, 1);
        x.hash(1020, 5);
        Due.noCell(x, 1024);
        Due.is("none by what is no FAULT", x.told(13), 0);
        x.read(4, 1021);
        Due.is("1", x.told(13), 1);
        x.write(4, 1021, 1);
        Due.is("3", x.told(13), 3);
        x.write(4, 255, 1);
        Due.is("2", x.told(13), 2);
        x.read(4, 1020);
        x.write(4, 1020, 1);
        Due.is("the latest stays", x.told(13), 2);
        x.read(1, -1);
        Due.is("the latest", x.told(13), 1);
    }

    private static void toldFaultPlace() {
        Due.sentence("Promise 9", "14 its place (as it was asked for),");
        GlulxHeads x = Story.loaded();
        Due.is("none", x.told(14), 0);
        for (int at : new int[] {MIN, MIN + 1, -1, 1021, 1024, MAX - 1, MAX}) {
            x.read(4, at);
            Due.is("read(4, " + at + ")", x.told(14), at);
        }
        for (int at : new int[] {MIN, -1, 0, 255, 1021, 1024, MAX}) {
            x.write(4, at, 1);
            Due.is("write(4, " + at + ")", x.told(14), at);
        }
        x.read(4, 300);
        x.read(5, 77);
        Due.is("the latest stays", x.told(14), MAX);
    }

    private static void toldSum() {
        Due.sentence("Promise 9", "15 1 if SUM was RIGHT.");
        GlulxHeads x = Story.file();
        long right = x.sum();
        x.word(32, (int) right - 1);
        x.load();
        Due.is("one too small", x.told(15), 0);
        x.word(32, (int) right);
        Due.is("THE FILE is not asked", x.told(15), 0);
        x.load();
        Due.is("RIGHT", x.told(15), 1);
        x.write(4, 300, 1);
        Due.is("MEMORY is not asked", x.told(15), 1);
        x.word(32, (int) right + 1);
        Due.is("it was RIGHT", x.told(15), 1);
        x.load();
        Due.is("one too large", x.told(15), 0);
    }

    private static void toldRefused() {
        Due.sentence("Promise 9", "NOTHING: -3, -2.");
        GlulxHeads x = Story.file();
        for (int what : new int[] {MIN, -1, 0, 8, 9, 15, 16, MAX}) {
            Due.nothing("no MACHINE: told(" + what + ")", x.told(what));
        }
        x.load();
        for (int what : new int[] {MIN, -16, -1, 16, 17, MAX}) {
            Due.nothing("told(" + what + ")", x.told(what));
        }
        Due.is("told(0)", x.told(0), Story.MARK);
        Due.is("told(15)", x.told(15), 0);
    }

    private static void read() {
        Due.sentence("Promise 10", "1, 2 or 4 bytes from a place on, without sign.");
        GlulxHeads x = Story.loaded();
        Due.is("from the first place on", x.read(4, 0), Story.MARK);
        for (int v : new int[] {0, 1, -1, MIN, MAX, 0x80FF7F01}) {
            x.write(4, 1020, v);
            Due.is("4 bytes of " + v, x.read(4, 1020), v & 4294967295L);
            Due.is("2 bytes of " + v, x.read(2, 1020), v >>> 16);
            Due.is("the last 2 bytes of " + v, x.read(2, 1022), v & 65535);
            for (int i = 0; i < 4; i++) {
                Due.is("byte " + i + " of " + v, x.read(1, 1020 + i), v >>> (24 - 8 * i) & 255);
            }
        }
        Due.is("an odd place", x.read(2, 1021), 0xFF7F);
        x.write(4, 1017, 0x0A0B0C0D);
        Due.is("an odd place", x.read(4, 1017), 0x0A0B0C0D);
    }

    private static void readRefused() {
        Due.sentence("Promise 10", "NOTHING: no MACHINE, another width, a FAULT (also a place below 0).");
        GlulxHeads x = Story.file();
        Due.nothing("no MACHINE", x.read(1, 0));
        x.load();
        Due.is("a MACHINE", x.read(1, 0), 0x47);
        for (int width : new int[] {MIN, -4, -2, -1, 0, 3, 5, 6, 8, 16, MAX}) {
            Due.nothing("width " + width, x.read(width, 0));
            Due.nothing("width " + width + " and a place below 0", x.read(width, -1));
        }
        Due.is("another width is no FAULT", x.told(13), 0);
        for (int width : new int[] {1, 2, 4}) {
            Due.is("the last place", x.read(width, 1024 - width), 0);
            Due.nothing("behind it", x.read(width, 1025 - width));
            Due.nothing("M", x.read(width, 1024));
            for (int at : new int[] {MIN, -width, -1}) {
                Due.nothing("place " + at, x.read(width, at));
                Due.is("its FAULT", x.told(13), 1);
                Due.is("its place", x.told(14), at);
            }
            Due.is("place 0", x.read(width, 0), Story.MARK >>> (32 - 8 * width));
        }
    }

    private static void write() {
        Due.sentence("Promise 11", "The lowest 1, 2 or 4 bytes of v are written: 1.");
        GlulxHeads x = Story.loaded();
        for (int v : new int[] {0, -1, MIN, MAX, 0x01020384}) {
            for (int width : new int[] {1, 2, 4}) {
                x.write(4, 600, 0x55555555);
                x.write(4, 604, 0x55555555);
                x.write(4, 608, 0x55555555);
                Due.is("write(" + width + ", 603)", x.write(width, 603, v), 1);
                Due.is("ahead", x.read(2, 601), 0x5555);
                Due.is("behind", x.read(1, 603 + width), 0x55);
                long mask = width == 4 ? 4294967295L : (1L << 8 * width) - 1;
                Due.is("written", x.read(width, 603), v & mask);
            }
        }
        Due.is("at RAM", x.write(1, 256, 511), 1);
        Due.is("its lowest byte", x.read(1, 256), 255);
        Due.is("up to M", x.write(4, 1020, 7), 1);
        Due.is("the lowest byte last", x.read(1, 1023), 7);
    }

    private static void writeRefused() {
        Due.sentence("Promise 11", "-2 another width;");
        GlulxHeads x = Story.loaded();
        int all = x.hash(0, 1024);
        for (int width : new int[] {MIN, -4, -1, 0, 3, 5, 8, MAX}) {
            for (int at : new int[] {-1, 0, 255, 300, 1020, 1024, MAX}) {
                Due.is("write(" + width + ", " + at + ")", x.write(width, at, -1), -2);
            }
        }
        Due.is("no FAULT", x.told(13), 0);
        Due.is("nothing is written", x.hash(0, 1024), all);
    }

    private static void writeFault() {
        Due.sentence("Promise 11", "-3 a FAULT (a place below 0: 2).");
        for (int width : new int[] {1, 2, 4}) {
            GlulxHeads x = Story.loaded();
            int all = x.hash(0, 1024);
            int[][] due = {{MIN, 2}, {-width, 2}, {-1, 2}, {0, 2}, {255, 2}, {1025 - width, 3}, {1024, 3}, {MAX, 3}};
            for (int[] pair : due) {
                Due.is("write(" + width + ", " + pair[0] + ")", x.write(width, pair[0], -1), -3);
                Due.is("its FAULT", x.told(13), pair[1]);
                Due.is("its place", x.told(14), pair[0]);
            }
            Due.is("nothing is written", x.hash(0, 1024), all);
            Due.is("just behind", x.write(width, 256, -1), 1);
            Due.is("just before", x.write(width, 1024 - width, -1), 1);
        }
    }

    private static void resize() {
        Due.sentence("Promise 12", "M becomes n: 0;");
        GlulxHeads x = Story.loaded();
        for (int n : new int[] {1024, 1280, 1280, 3840, 4096, 4096, 1280, 1024}) {
            Due.is("resize(" + n + ")", x.resize(n), 0);
            Due.is("M", x.told(9), n);
            Due.is("the last place", x.read(1, n - 1), 0);
            Due.nothing("behind it", x.read(1, n));
        }
        GlulxHeads y = Story.loaded(256, 256, 4096);
        Due.is("END 4096", y.resize(4096), 0);
    }

    private static void resizeNot() {
        Due.sentence("Promise 12", "1 it does not: n is no multiple of 256, below END, above 4096, or THE HEAP stands.");
        GlulxHeads x = Story.loaded();
        x.resize(2048);
        for (int n : new int[] {1025, 1279, 1281, 2047, 2049, 4095, 4097, 1152}) {
            Due.is("no multiple: " + n, x.resize(n), 1);
            Due.is("M", x.told(9), 2048);
        }
        for (int n : new int[] {1023, 768, 256, 0, -1, -256, -1024, MIN}) {
            Due.is("below END: " + n, x.resize(n), 1);
            Due.is("M", x.told(9), 2048);
        }
        for (int n : new int[] {4352, 8192, 65536, MAX, MAX - 255}) {
            Due.is("above 4096: " + n, x.resize(n), 1);
            Due.is("M", x.told(9), 2048);
        }
        x.block(1);
        for (int n : new int[] {1024, 2048, 2304, 4096}) {
            Due.is("THE HEAP stands: " + n, x.resize(n), 1);
            Due.is("M", x.told(9), 2304);
        }
        x.free(2048);
        Due.is("END", x.resize(1024), 0);
        Due.is("4096", x.resize(4096), 0);
        x.write(4, 4092, -1);
        Due.is("not", x.resize(3841), 1);
        Due.is("MEMORY stays", x.read(4, 4092), 4294967295L);
    }

    private static void resizeNewBytes() {
        Due.sentence("Promise 12", "New bytes are 0.");
        GlulxHeads x = Story.loaded();
        x.write(4, 1020, 0x01020304);
        x.resize(1536);
        Due.is("the last one that was there", x.read(1, 1023), 4);
        Due.is("new ones", x.hash(1024, 512), 0);
        for (int at = 1024; at < 1536; at += 4) {
            x.write(4, at, -1);
        }
        x.resize(1280);
        x.resize(2048);
        Due.is("those that stayed", x.read(4, 1276), 4294967295L);
        Due.is("new ones", x.hash(1280, 768), 0);
        x.resize(1024);
        x.resize(1280);
        Due.is("new ones", x.hash(1024, 256), 0);
        Due.is("the last one that was there", x.read(4, 1020), 0x01020304);
    }

    private static void block() {
        Due.sentence("Promise 13", "A BLOCK of n bytes: its place;");
        GlulxHeads x = Story.loaded();
        Due.is("the least n", x.block(1), 1024);
        Due.is("behind it", x.block(2), 1025);
        Due.is("behind it", x.block(255), 1027);
        Due.is("it has n bytes", x.free(1025), 2);
        Due.is("its place", x.block(1), 1025);
        Due.is("the byte that is left", x.block(1), 1026);
        Due.is("it has n bytes", x.free(1027), 255);
        Due.is("the greatest n", x.block(8192 - 1027), 1027);
        Due.is("it has n bytes", x.free(1027), 7165);
        GlulxHeads y = Story.loaded(256, 256, 256);
        Due.is("the greatest n of all", y.block(7936), 256);
        Due.is("it has n bytes", y.free(256), 7936);
    }

    private static void blockNone() {
        Due.sentence("Promise 13", "0 there is none such, or 16 are there.");
        GlulxHeads x = Story.loaded();
        Due.is("none such", x.block(7169), 0);
        Due.is("none such", x.block(MAX), 0);
        Due.is("no HEAP by that", x.told(10), 0);
        Due.is("there is one", x.block(7168), 1024);
        x.free(1024);
        for (int i = 0; i < 15; i++) {
            x.block(2);
        }
        Due.is("15 are there, none such", x.block(7168 - 29), 0);
        Due.is("15 are there", x.block(2), 1054);
        Due.is("16 are there", x.block(2), 0);
        Due.is("16 are there", x.block(MAX), 0);
        x.free(1024);
        Due.is("15 are there", x.block(2), 1024);
        Due.is("M", x.told(9), 1280);
    }

    private static void blockRefused() {
        Due.sentence("Promise 13", "-2 n below 1.");
        GlulxHeads x = Story.loaded();
        for (int n : new int[] {MIN, -256, -1, 0}) {
            Due.is("block(" + n + ")", x.block(n), -2);
            Due.is("BLOCKS", x.told(11), 0);
            Due.is("M", x.told(9), 1024);
        }
        for (int i = 0; i < 16; i++) {
            Due.is("block(1)", x.block(1), 1024 + i);
        }
        Due.is("block(0), 16 are there", x.block(0), -2);
        Due.is("block(1), 16 are there", x.block(1), 0);
    }

    private static void free() {
        Due.sentence("Promise 14", "The BLOCK that begins at a place goes: how many bytes it had.");
        GlulxHeads x = Story.loaded();
        int[] lengths = {1, 255, 256, 257, 1000};
        int[] places = {1024, 1025, 1280, 1536, 1793};
        for (int i = 0; i < 5; i++) {
            Due.is("block", x.block(lengths[i]), places[i]);
        }
        for (int i : new int[] {2, 0, 4, 3, 1}) {
            Due.is("free(" + places[i] + ")", x.free(places[i]), lengths[i]);
            Due.is("free again", x.free(places[i]), -1);
        }
        Due.is("M", x.told(9), 1024);
        Due.is("up to 8192", x.block(7168), 1024);
        Due.is("free", x.free(1024), 7168);
    }

    private static void freeRefused() {
        Due.sentence("Promise 14", "-1.");
        GlulxHeads x = Story.loaded();
        for (int at : new int[] {MIN, -1, 0, 256, 1024, MAX}) {
            Due.is("no BLOCKS: free(" + at + ")", x.free(at), -1);
        }
        x.block(10);
        x.block(10);
        for (int at : new int[] {MIN, -1, 0, 1023, 1025, 1033, 1035, 1043, 1044, 1280, 8192, MAX}) {
            Due.is("free(" + at + ")", x.free(at), -1);
        }
        Due.is("BLOCKS", x.told(11), 2);
        Due.is("M", x.told(9), 1280);
        Due.is("the first", x.free(1024), 10);
        Due.is("it is gone", x.free(1024), -1);
        Due.is("the second", x.free(1034), 10);
        Due.is("all are gone", x.free(1034), -1);
        Due.is("M", x.told(9), 1024);
    }
}
