/** "Terms", THE HEAP, sentence by sentence. */
public final class HeapTerms {
    private static final String TERMS = "Terms";

    private HeapTerms() {
    }

    public static void run() {
        stands();
        sixteen();
        noneOverAnother();
        begins();
        leastPlace();
        gaps();
        endsAt8192();
        upToMultiple();
        notBelowWhatItWas();
        newBytes();
        bytesOfOneThatWent();
        lastGoes();
        beyondM();
    }

    private static void stands() {
        Due.sentence(TERMS, "THE HEAP stands while there are BLOCKS");
        GlulxHeads x = Story.loaded();
        Due.is("no BLOCK: resize", x.resize(1280), 0);
        Due.is("no BLOCK: where it began", x.told(10), 0);
        x.block(5);
        x.block(5);
        Due.is("two BLOCKS: resize", x.resize(1536), 1);
        x.free(1280);
        Due.is("one BLOCK: resize", x.resize(1536), 1);
        Due.is("one BLOCK: where it began", x.told(10), 1280);
        x.free(1285);
        Due.is("no BLOCK: where it began", x.told(10), 0);
        Due.is("no BLOCK: resize", x.resize(1536), 0);
    }

    private static void sixteen() {
        Due.sentence(TERMS, "(16 at most,");
        GlulxHeads x = Story.loaded();
        for (int i = 1; i <= 16; i++) {
            Due.is("BLOCK " + i, x.block(3), 1024 + 3 * (i - 1));
            Due.is("BLOCKS", x.told(11), i);
        }
        Due.is("BLOCK 17", x.block(3), 0);
        Due.is("BLOCKS", x.told(11), 16);
        x.free(1024 + 15);
        Due.is("BLOCK 16 again", x.block(3), 1024 + 15);
        Due.is("BLOCK 17 again", x.block(1), 0);
        Due.is("M", x.told(9), 1280);
        for (int i = 0; i < 16; i++) {
            Due.is("each of them is there", x.free(1024 + 3 * i), 3);
        }
    }

    private static void noneOverAnother() {
        Due.sentence(TERMS, "none over another one).");
        GlulxHeads x = Story.loaded();
        int[] lengths = {1, 255, 256, 257, 2, 700, 1, 30};
        int[] places = new int[lengths.length];
        for (int i = 0; i < lengths.length; i++) {
            places[i] = x.block(lengths[i]);
        }
        for (int i = 1; i < lengths.length; i += 2) {
            x.free(places[i]);
            lengths[i] = lengths[i] - i;
            places[i] = x.block(lengths[i]);
        }
        for (int i = 0; i < lengths.length; i++) {
            x.write(1, places[i], i + 1);
            x.write(1, places[i] + lengths[i] - 1, i + 1);
        }
        for (int i = 0; i < lengths.length; i++) {
            Due.is("the first byte of BLOCK " + i, x.read(1, places[i]), i + 1);
            Due.is("the last byte of BLOCK " + i, x.read(1, places[i] + lengths[i] - 1), i + 1);
            for (int j = 0; j < i; j++) {
                boolean apart = places[i] + lengths[i] <= places[j] || places[j] + lengths[j] <= places[i];
                Due.is("BLOCKS " + i + " and " + j + " are apart", apart ? 1 : 0, 1);
            }
        }
    }

    private static void begins() {
        Due.sentence(TERMS, "It begins at the M at which the first of them came.");
        GlulxHeads x = Story.loaded();
        Due.is("at END", x.block(300), 1024);
        Due.is("it began", x.told(10), 1024);
        x.block(300);
        Due.is("not at the second", x.told(10), 1024);
        x.free(1024);
        Due.is("not when the first is gone", x.told(10), 1024);
        Due.is("the first free place", x.block(1), 1024);
        x.free(1024);
        x.free(1324);
        x.resize(1280);
        Due.is("at another M", x.block(1), 1280);
        Due.is("it began", x.told(10), 1280);
        x.free(1280);
        x.resize(4096);
        Due.is("at the greatest M", x.block(4096), 4096);
        Due.is("it began", x.told(10), 4096);
        Due.is("M", x.told(9), 8192);
    }

    private static void leastPlace() {
        Due.sentence(TERMS, "A BLOCK of n bytes comes to the least place from there on with n free bytes,");
        GlulxHeads x = Story.loaded();
        x.block(100);
        x.block(10);
        x.block(50);
        x.block(10);
        x.block(80);
        x.block(10);
        // free: 100 bytes at 1024, 50 at 1134, 80 at 1194, and all behind 1284
        x.free(1024);
        x.free(1134);
        x.free(1194);
        Due.is("101 fit behind all", x.block(101), 1284);
        x.free(1284);
        Due.is("100 fit at the front", x.block(100), 1024);
        Due.is("81 fit behind all", x.block(81), 1284);
        x.free(1284);
        Due.is("80 fit in the second gap", x.block(80), 1194);
        x.free(1194);
        Due.is("51 fit in the second gap", x.block(51), 1194);
        x.free(1194);
        Due.is("50 fit in the first gap", x.block(50), 1134);
        Due.is("1 fits in the second gap", x.block(1), 1194);
        Due.is("79 fit behind it", x.block(79), 1195);
        Due.is("1 fits behind all", x.block(1), 1284);
    }

    private static void gaps() {
        // Two BLOCKS beside each other that went are one gap; the rest of a gap is one too.
        GlulxHeads x = Story.loaded();
        x.block(40);
        x.block(60);
        x.block(5);
        x.free(1024);
        x.free(1064);
        Due.is("101 do not fit", x.block(101), 1129);
        Due.is("99 fit", x.block(99), 1024);
        Due.is("2 do not fit", x.block(2), 1230);
        Due.is("1 fits", x.block(1), 1123);
        Due.is("none is left", x.block(1), 1232);
    }

    private static void endsAt8192() {
        Due.sentence(TERMS, "if these end at 8192 or before;");
        for (int end : new int[] {256, 1024, 4096}) {
            GlulxHeads x = Story.loaded(256, 256, end);
            int room = 8192 - end;
            Due.is("end at 8193", x.block(room + 1), 0);
            Due.is("no HEAP by that", x.told(10), 0);
            Due.is("no HEAP by that: M", x.told(9), end);
            Due.is("as far as can be", x.block(Integer.MAX_VALUE), 0);
            Due.is("end at 8192", x.block(room), end);
            Due.is("none behind it", x.block(1), 0);
            x.free(end);
            Due.is("end at 8191", x.block(room - 1), end);
            Due.is("end at 8193", x.block(2), 0);
            Due.is("BLOCKS", x.told(11), 1);
            Due.is("end at 8192", x.block(1), 8191);
            Due.is("as far as can be", x.block(Integer.MAX_VALUE), 0);
            x.free(end);
            Due.is("one too many for the gap", x.block(room), 0);
            Due.is("just the gap", x.block(room - 1), end);
        }
    }

    private static void upToMultiple() {
        Due.sentence(TERMS, "M is then the end of the BLOCK that ends last, up to a multiple of 256,");
        int[][] due = {{1, 1280}, {255, 1280}, {256, 1280}, {257, 1536}, {511, 1536}, {512, 1536}, {513, 1792},
            {6912, 7936}, {6913, 8192}, {7167, 8192}, {7168, 8192}};
        for (int[] pair : due) {
            GlulxHeads x = Story.loaded();
            x.block(pair[0]);
            Due.is("M with a BLOCK of " + pair[0], x.told(9), pair[1]);
        }
        GlulxHeads x = Story.loaded();
        x.block(200);
        x.block(56);
        Due.is("the second ends at 1280", x.told(9), 1280);
        x.block(1);
        Due.is("the third ends at 1281", x.told(9), 1536);
    }

    private static void notBelowWhatItWas() {
        Due.sentence(TERMS, "but not below what it was;");
        GlulxHeads x = Story.loaded();
        x.block(256);
        x.block(257);
        Due.is("M", x.told(9), 1792);
        x.free(1280);
        Due.is("M stays", x.told(9), 1792);
        Due.is("a BLOCK that ends before", x.block(256), 1280);
        Due.is("M stays", x.told(9), 1792);
        x.free(1280);
        x.block(512);
        Due.is("a BLOCK that ends at M", x.told(9), 1792);
        x.free(1280);
        x.block(513);
        Due.is("a BLOCK that ends behind M", x.told(9), 2048);
        x.free(1024);
        Due.is("a BLOCK in the gap", x.block(10), 1024);
        Due.is("M stays", x.told(9), 2048);
    }

    private static void newBytes() {
        Due.sentence(TERMS, "bytes that come to MEMORY by that are 0");
        GlulxHeads x = Story.loaded();
        x.write(4, 1020, -1);
        x.resize(2048);
        for (int at = 1024; at < 2048; at += 4) {
            x.write(4, at, -1);
        }
        x.resize(1024);
        x.block(257);
        Due.is("of the BLOCK and behind it", x.hash(1024, 512), 0);
        x.write(4, 1532, -1);
        x.block(256);
        Due.is("those that were there stay", x.read(4, 1532), 4294967295L);
        Due.is("those that come", x.hash(1536, 256), 0);
        Due.is("ahead of THE HEAP", x.read(4, 1020), 4294967295L);
    }

    private static void bytesOfOneThatWent() {
        Due.sentence(TERMS, "(those of a BLOCK that went stay as they are).");
        GlulxHeads x = Story.loaded();
        x.block(100);
        x.block(100);
        x.block(400);
        x.write(1, 1024, 1);
        x.write(1, 1123, 2);
        x.write(1, 1224, 3);
        x.write(1, 1623, 4);
        x.free(1024);
        x.free(1224);
        Due.is("its first byte", x.read(1, 1024), 1);
        Due.is("its last byte", x.read(1, 1123), 2);
        Due.is("the first byte of the last one", x.read(1, 1224), 3);
        Due.is("the last byte of the last one", x.read(1, 1623), 4);
        Due.is("one in its place", x.block(100), 1024);
        Due.is("its first byte", x.read(1, 1024), 1);
        Due.is("its last byte", x.read(1, 1123), 2);
        Due.is("one that goes beyond M", x.block(600), 1224);
        Due.is("the first byte", x.read(1, 1224), 3);
        Due.is("a byte within", x.read(1, 1623), 4);
        Due.is("behind M as it was", x.hash(1792, 256), 0);
    }

    private static void lastGoes() {
        Due.sentence(TERMS, "When the last BLOCK goes, M is where THE HEAP began.");
        for (int first = 0; first < 2; first++) {
            GlulxHeads x = Story.loaded();
            x.resize(1280);
            int[] places = {x.block(256), x.block(256)};
            x.free(places[first]);
            Due.is("one is there: M", x.told(9), 1792);
            x.free(places[1 - first]);
            Due.is("none is there: M", x.told(9), 1280);
            Due.nothing("beyond it", x.read(1, 1280));
            Due.is("below it", x.read(1, 1279), 0);
        }
        GlulxHeads x = Story.loaded();
        for (int i = 0; i < 16; i++) {
            x.block(100);
        }
        for (int i = 15; i >= 0; i--) {
            Due.is("M while " + (i + 1) + " are there", x.told(9), 2816);
            x.free(1024 + 100 * i);
        }
        Due.is("M when none is", x.told(9), 1024);
    }

    private static void beyondM() {
        Due.sentence(TERMS, "(What is beyond M is 0 when it comes again.)");
        GlulxHeads x = Story.loaded();
        x.block(512);
        x.write(4, 1022, 0x11223344);
        x.write(4, 1532, -1);
        x.free(1024);
        x.block(512);
        Due.is("by a BLOCK: below M it stays", x.read(2, 1022), 0x1122);
        Due.is("by a BLOCK", x.hash(1024, 512), 0);
        x.write(4, 1024, -1);
        x.write(4, 1532, -1);
        x.free(1024);
        x.resize(1536);
        Due.is("by resize", x.hash(1024, 512), 0);
        x.write(4, 1022, 0x55667788);
        x.write(4, 1532, -1);
        x.resize(1280);
        x.resize(1536);
        Due.is("by resize: below M it stays", x.read(4, 1022), 0x55667788);
        Due.is("by resize: beyond M", x.hash(1280, 256), 0);
        x.write(4, 1532, -1);
        x.restart();
        x.resize(1536);
        Due.is("after restart", x.hash(1024, 512), 0);
        x.save();
        x.resize(2048);
        x.write(4, 1536, -1);
        x.restore();
        x.resize(2048);
        Due.is("after restore", x.hash(1536, 512), 0);
    }
}
