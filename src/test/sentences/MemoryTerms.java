/** "Terms", THE MACHINE and FAULTS, sentence by sentence. */
public final class MemoryTerms {
    private static final String TERMS = "Terms";
    private static final int[] WIDTHS = {1, 2, 4};

    private MemoryTerms() {
    }

    public static void run() {
        memory();
        asLoaded();
        sizeIsEnd();
        loadedStays();
        notBelowM();
        belowMMoves();
        belowRam();
        ramAhead();
    }

    private static void memory() {
        Due.sentence(TERMS, "THE MACHINE has MEMORY, bytes from 0 on, M of them;");
        GlulxHeads x = Story.loaded();
        Due.noCell(x, -1);
        Due.cell(x, 0, 0x47);
        Due.cell(x, 1, 0x6C);
        Due.cell(x, 1022, 0);
        Due.cell(x, 1023, 0);
        Due.noCell(x, 1024);
        x.resize(1280);
        Due.cell(x, 1024, 0);
        Due.cell(x, 1279, 0);
        Due.noCell(x, 1280);
    }

    private static void asLoaded() {
        Due.sentence(TERMS, "as LOADED: THE FILE, then 0 up to END;");
        // A machine that stood before, full of other bytes, must leave none behind.
        GlulxHeads x = Story.loaded(256, 1024, 4096);
        x.block(4096);
        for (int at = 256; at < 1600; at += 4) {
            x.write(4, at, -1);
        }
        Story.put(x, 256, 512, 1024);
        x.word(508, 0x11223344);
        x.load();
        Due.is("the first byte of THE FILE", x.read(1, 0), 0x47);
        Due.is("the last bytes of THE FILE", x.read(4, 508), 0x11223344);
        Due.is("the first byte behind it", x.read(1, 512), 0);
        Due.is("all of them", x.hash(512, 512), 0);
        Due.is("the last byte", x.read(1, 1023), 0);
        Due.nothing("END", x.read(1, 1024));

        GlulxHeads y = Story.file(256, 512, 512);
        y.word(508, 0x11223344);
        y.load();
        Due.is("END is EXT: the last bytes", y.read(4, 508), 0x11223344);
        Due.nothing("END is EXT: none behind", y.read(1, 512));
    }

    private static void sizeIsEnd() {
        Due.sentence(TERMS, "M is END.");
        for (int end : new int[] {256, 512, 3840, 4096}) {
            GlulxHeads x = Story.loaded(256, 256, end);
            Due.is("M of END " + end, x.told(9), end);
            Due.is("the last byte", x.hash(end - 1, 1) >= 0 ? 1 : 0, 1);
            Due.nothing("behind it", x.read(1, end));
        }
    }

    private static void loadedStays() {
        Due.sentence(TERMS, "(THE FILE may change then; what was LOADED stays.)");
        GlulxHeads x = Story.loaded();
        int all = x.hash(0, 1024);
        x.word(0, 0);
        x.word(508, -1);
        Due.is("word", x.hash(0, 1024), all);
        x.fill(100, 1);
        x.feed(1, 2, 3, 4, 5);
        Due.is("fill, feed", x.hash(0, 1024), all);
        x.cut(0);
        Due.is("cut", x.hash(0, 1024), all);
        long[] head = {0x476C756C, 0x30102, 256, 512, 1024, 256, 36, 0, 0};
        for (int i = 0; i < 9; i++) {
            Due.is("told(" + i + ")", x.told(i), head[i]);
        }
        Due.is("changed", x.changed(1), 0);
        x.write(1, 508, (int) x.read(1, 508) + 1);
        Due.is("changed", x.changed(1), 1);
        Due.is("restart", x.restart(), 1024);
        Due.is("as LOADED", x.hash(0, 1024), all);
    }

    private static void fault(GlulxHeads x, String call, int kind, int at) {
        Due.is(call + ": its FAULT", x.told(13), kind);
        Due.is(call + ": its place", x.told(14), at);
    }

    private static void notBelowM() {
        Due.sentence(TERMS, "FAULTS, with the place that was asked for: 1 what is read, 3 what is written is not all "
            + "below M;");
        for (int width : WIDTHS) {
            GlulxHeads x = Story.loaded();
            for (int at = 1024 - width - 1; at <= 1024 - width; at++) {
                Due.is("read(" + width + ", " + at + ")", x.read(width, at), 0);
                Due.is("write(" + width + ", " + at + ")", x.write(width, at, 0), 1);
                fault(x, "none", 0, 0);
            }
            for (int at : new int[] {1024 - width + 1, 1024, 1025, 8192, Integer.MAX_VALUE - 3, Integer.MAX_VALUE}) {
                Due.nothing("read(" + width + ", " + at + ")", x.read(width, at));
                fault(x, "read(" + width + ", " + at + ")", 1, at);
                Due.is("write(" + width + ", " + at + ")", x.write(width, at, -1), -3);
                fault(x, "write(" + width + ", " + at + ")", 3, at);
            }
            Due.is("nothing is written", x.hash(512, 512), 0);
        }
    }

    private static void belowMMoves() {
        GlulxHeads x = Story.loaded();
        x.resize(1280);
        Due.is("after resize, read", x.read(4, 1276), 0);
        Due.nothing("after resize, read", x.read(4, 1277));
        fault(x, "after resize, read", 1, 1277);
        Due.is("after resize, write", x.write(2, 1278, 5), 1);
        Due.is("after resize, write", x.write(2, 1279, 5), -3);
        fault(x, "after resize, write", 3, 1279);
        x.block(1);
        Due.is("behind the BLOCK, below M", x.write(4, 1532, 6), 1);
        Due.is("not below M", x.write(4, 1533, 6), -3);
        fault(x, "write(4, 1533)", 3, 1533);
        x.free(1280);
        Due.nothing("M is 1280 again", x.read(1, 1280));
        fault(x, "read(1, 1280)", 1, 1280);
    }

    private static void belowRam() {
        Due.sentence(TERMS, "2 it is written below RAM");
        for (int ram : new int[] {256, 512}) {
            for (int width : WIDTHS) {
                GlulxHeads x = Story.loaded(ram, 512, 1024);
                int before = x.hash(0, 1024);
                for (int at : new int[] {ram - 1, ram - width, 0, -1, Integer.MIN_VALUE}) {
                    Due.is("write(" + width + ", " + at + ")", x.write(width, at, -1), -3);
                    fault(x, "write(" + width + ", " + at + ")", 2, at);
                }
                Due.is("nothing is written", x.hash(0, 1024), before);
                Due.is("write at RAM", x.write(width, ram, -1), 1);
                Due.is("write behind RAM", x.write(width, ram + 1, -1), 1);
                fault(x, "the latest", 2, Integer.MIN_VALUE);
            }
            GlulxHeads x = Story.loaded(ram, 512, 1024);
            Due.is("what is below RAM may be read", x.read(1, ram - 1) >= 0 ? 1 : 0, 1);
            fault(x, "none", 0, 0);
        }
    }

    private static void ramAhead() {
        Due.sentence(TERMS, "(asked ahead of 3).");
        // RAM is M here, so that a write may be below RAM and not all below M.
        GlulxHeads x = Story.loaded(512, 512, 512);
        for (int at = 509; at < 512; at++) {
            Due.is("write(4, " + at + ")", x.write(4, at, -1), -3);
            fault(x, "write(4, " + at + ")", 2, at);
        }
        Due.is("write(4, 512)", x.write(4, 512, -1), -3);
        fault(x, "write(4, 512)", 3, 512);
        Due.is("write(4, -1)", x.write(4, -1, -1), -3);
        fault(x, "write(4, -1)", 2, -1);
    }
}
