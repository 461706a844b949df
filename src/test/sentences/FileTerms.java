/** "Terms", from WORDS to THE VERDICT, sentence by sentence. */
public final class FileTerms {
    private static final String TERMS = "Terms";

    private FileTerms() {
    }

    public static void run() {
        words();
        fileRoom();
        headPlaces();
        sumOfAllWords();
        sumFilled();
        sumWithoutItself();
        sumModulo();
        verdictFirst();
        verdict1();
        verdict2();
        verdict3();
        verdict4();
        verdict5();
        verdict6();
        verdict7();
        verdict8();
        verdict9();
        verdict10();
        verdictElse();
    }

    private static void words() {
        Due.sentence(TERMS, "WORDS are four bytes, the highest first, without sign (0 to 4294967295).");
        GlulxHeads x = Story.file();
        for (int v : new int[] {0, 1, Integer.MAX_VALUE, Integer.MIN_VALUE, -2, -1}) {
            x.word(32, v);
            x.load();
            Due.is("told(8) of " + v, x.told(8), v & 4294967295L);
            Due.is("read(4, 32) of " + v, x.read(4, 32), v & 4294967295L);
        }
        x.word(32, 0x81020384);
        x.load();
        int[] bytes = {0x81, 0x02, 0x03, 0x84};
        for (int i = 0; i < 4; i++) {
            Due.is("byte " + i, x.read(1, 32 + i), bytes[i]);
        }
    }

    private static void fileRoom() {
        Due.sentence(TERMS, "THE FILE has at most 3000 bytes.");
        GlulxHeads x = new GlulxHeads();
        Due.is("fill up to 2999", x.fill(2999, 1), 2999);
        Due.is("fill up to 3000", x.fill(1, 1), 3000);
        Due.is("fill up to 3001", x.fill(1, 1), -4);
        Due.is("cut", x.cut(2979), 21);
        Due.is("feed up to 2999", x.feed(1, 2, 3, 4, 5), 2999);
        Due.is("cut", x.cut(2980), 19);
        Due.is("feed up to 3000", x.feed(1, 2, 3, 4, 5), 3000);
        Due.is("cut", x.cut(2981), 19);
        Due.is("feed up to 3001", x.feed(1, 2, 3, 4, 5), -4);
        Due.is("it has 2981", x.cut(2981), 0);
    }

    private static void headPlaces() {
        Due.sentence(TERMS, "Its HEAD, WORDS from these places on: 0 MARK (0x476C756C), 4 VERSION, 8 RAM, 12 EXT, "
            + "16 END, 20 STACK, 24 START, 28 TABLE, 32 SUM.");
        GlulxHeads x = new GlulxHeads();
        x.feed(0x476C756C, 0x20001, 256, 512, 768);
        x.feed(1024, 40, 44, 0x99887766, -1);
        x.fill(472, 5);
        Due.is("load", x.load(), 0);
        long[] head = {0x476C756CL, 0x20001, 256, 512, 768, 1024, 40, 44, 0x99887766L};
        for (int i = 0; i < 9; i++) {
            Due.is("the WORD at " + 4 * i, x.told(i), head[i]);
            Due.is("MEMORY at " + 4 * i, x.read(4, 4 * i), head[i]);
        }
        Due.is("behind the HEAD", x.read(4, 36), 4294967295L);
    }

    private static void sumOfAllWords() {
        Due.sentence(TERMS, "SUM is RIGHT, if it is the sum of all WORDS of THE FILE");
        GlulxHeads x = Story.file();
        for (int off = -1; off <= 1; off++) {
            x.word(32, (int) x.sum() + off);
            x.load();
            Due.is("SUM is RIGHT, off by " + off, x.told(15), off == 0 ? 1 : 0);
        }
        for (int at : new int[] {0, 4, 36, 504, 508}) {
            x.word(at, 0);
            long before = x.sum();
            x.word(at, 1);
            Due.is("the WORD at " + at + " counts", x.sum(), (before + 1) % 4294967296L);
        }
    }

    private static GlulxHeads fed(int last, int bytes) {
        GlulxHeads x = new GlulxHeads();
        x.feed(1, 2, 3, 4, 5);
        x.feed(6, 7, 8, 1000, last);
        x.cut(bytes);
        return x;
    }

    private static void sumFilled() {
        Due.sentence(TERMS, "(its last one filled with 0, if it must be),");
        Due.is("36 bytes", fed(0xA1B2C3D4, 36).sum(), 36);
        Due.is("37 bytes", fed(0xA1B2C3D4, 37).sum(), 36 + 0xA1000000L);
        Due.is("38 bytes", fed(0xA1B2C3D4, 38).sum(), 36 + 0xA1B20000L);
        Due.is("39 bytes", fed(0xA1B2C3D4, 39).sum(), 36 + 0xA1B2C300L);
        Due.is("40 bytes", fed(0xA1B2C3D4, 40).sum(), 36 + 0xA1B2C3D4L);
        GlulxHeads x = new GlulxHeads();
        x.fill(2980, 3);
        x.feed(0, 0, 0, 0, 0xA1B2C3D4);
        long full = x.sum();
        long[] went = {0xD4, 0xC3D4, 0xB2C3D4, 0xA1B2C3D4L};
        for (int i = 0; i < 4; i++) {
            x.cut(2999 - i);
            Due.is(2999 - i + " bytes", x.sum(), Math.floorMod(full - went[i], 4294967296L));
        }
    }

    private static void sumWithoutItself() {
        Due.sentence(TERMS, "that at 32 taken as 0,");
        GlulxHeads x = fed(10, 40);
        Due.is("sum", x.sum(), 46);
        x.word(28, 9);
        Due.is("the WORD at 28 counts", x.sum(), 47);
        x.word(36, 11);
        Due.is("the WORD at 36 counts", x.sum(), 48);
        for (int v : new int[] {0, 1, 48, -1}) {
            x.word(32, v);
            Due.is("the WORD at 32 does not", x.sum(), 48);
        }
    }

    private static void sumModulo() {
        Due.sentence(TERMS, "modulo 2^32.");
        GlulxHeads x = new GlulxHeads();
        x.feed(-3, 1, 0, 0, 0);
        x.feed(0, 0, 0, 7, 0);
        long[] due = {4294967294L, 4294967295L, 0, 1};
        for (int i = 0; i < 4; i++) {
            x.word(4, 1 + i);
            Due.is("4294967293 and " + (1 + i), x.sum(), due[i]);
        }
        for (int at = 0; at < 40; at += 4) {
            x.word(at, -1);
        }
        Due.is("nine times 4294967295", x.sum(), 4294967287L);
        GlulxHeads y = Story.file();
        y.word(36, -1);
        y.word(40, -1);
        y.word(32, (int) y.sum());
        y.load();
        Due.is("RIGHT beyond 2^32", y.told(15), 1);
    }

    /** Puts each fault of the set into a good head, so that no fault takes away another one of the set. */
    private static GlulxHeads faulty(int set) {
        GlulxHeads x = Story.file();
        boolean[] bad = new boolean[11];
        for (int i = 1; i <= 10; i++) {
            bad[i] = (set >> (i - 1) & 1) == 1;
        }
        x.word(0, bad[2] ? Story.MARK + 1 : Story.MARK);
        x.word(4, bad[3] ? 0x30200 : 0x301FF);
        x.word(8, bad[5] ? 0 : 256);
        x.word(16, bad[4] ? 1025 : 1024);
        x.word(20, bad[10] ? (bad[7] ? 65537 : 65792) : (bad[7] ? 0 : 65536));
        x.word(24, bad[8] ? 35 : 36);
        x.word(28, bad[9] ? 35 : 36);
        if (bad[6]) {
            x.fill(1, 1);
        }
        if (bad[1]) {
            x.cut(35);
        }
        return x;
    }

    private static void verdictFirst() {
        Due.sentence(TERMS, "THE VERDICT, the first of these:");
        for (int set = 0; set < 1024; set++) {
            int first = set == 0 ? 0 : 1 + Integer.numberOfTrailingZeros(set);
            Due.is("faults " + Integer.toBinaryString(set) + ", the last digit is 1", faulty(set).verdict(), first);
        }
    }

    private static void judged(int at, int v, int want) {
        GlulxHeads x = Story.file();
        x.word(at, v);
        Due.is("the WORD at " + at + " is " + v + ": verdict()", x.verdict(), want);
    }

    private static void verdict1() {
        Due.sentence(TERMS, "1 it has fewer than 36 bytes;");
        GlulxHeads x = Story.file();
        x.word(12, 256);
        x.cut(37);
        Due.is("37 bytes", x.verdict(), 6);
        x.cut(36);
        Due.is("36 bytes", x.verdict(), 6);
        x.cut(35);
        Due.is("35 bytes", x.verdict(), 1);
        x.cut(1);
        Due.is("1 byte", x.verdict(), 1);
        x.cut(0);
        Due.is("no byte", x.verdict(), 1);
    }

    private static void verdict2() {
        Due.sentence(TERMS, "2 another MARK;");
        judged(0, 0x476C756C, 0);
        judged(0, 0x476C756B, 2);
        judged(0, 0x476C756D, 2);
        for (int bit = 0; bit < 32; bit++) {
            judged(0, 0x476C756C ^ 1 << bit, 2);
        }
        judged(0, 0x6C756C47, 2);
        judged(0, 0, 2);
    }

    private static void verdict3() {
        Due.sentence(TERMS, "3 VERSION below 0x20000 or above 0x301FF;");
        judged(4, 0x1FFFF, 3);
        judged(4, 0x20000, 0);
        judged(4, 0x20001, 0);
        judged(4, 0x301FE, 0);
        judged(4, 0x301FF, 0);
        judged(4, 0x30200, 3);
        judged(4, 0, 3);
        judged(4, Integer.MAX_VALUE, 3);
        judged(4, Integer.MIN_VALUE + 0x20000, 3);
        judged(4, -1, 3);
    }

    private static void verdict4() {
        Due.sentence(TERMS, "4 RAM, EXT, or END is no multiple of 256;");
        int[] good = {256, 512, 1024};
        for (int i = 0; i < 3; i++) {
            int at = 8 + 4 * i;
            judged(at, good[i] - 1, 4);
            judged(at, good[i], 0);
            judged(at, good[i] + 1, 4);
            judged(at, good[i] + 128, 4);
            judged(at, good[i] + Integer.MIN_VALUE + 1, 4);
            judged(at, -1, 4);
        }
        judged(8, 1, 4);
    }

    private static void verdict5() {
        Due.sentence(TERMS, "5 not 256 at most RAM, RAM at most EXT, EXT at most END;");
        judged(8, 0, 5);
        judged(8, 256, 0);
        judged(8, 512, 0);
        judged(8, 768, 5);
        judged(8, Integer.MIN_VALUE, 5);
        judged(8, -256, 5);
        judged(12, 0, 5);
        judged(12, 1280, 5);
        judged(12, Integer.MIN_VALUE, 5);
        judged(16, 256, 5);
        judged(16, 512, 0);
        judged(16, 768, 0);
        judged(16, 0, 5);
        Due.is("all three 256", Story.file(256, 256, 256).verdict(), 0);
        // EXT and END below RAM, but in order
        Due.is("RAM 768, EXT 512, END 512", Story.file(768, 512, 512).verdict(), 5);
    }

    private static void verdict6() {
        Due.sentence(TERMS, "6 EXT is not how many bytes there are;");
        GlulxHeads x = Story.file();
        Due.is("512 bytes", x.verdict(), 0);
        x.fill(1, 1);
        Due.is("513 bytes", x.verdict(), 6);
        x.cut(512);
        Due.is("512 bytes again", x.verdict(), 0);
        x.cut(511);
        Due.is("511 bytes", x.verdict(), 6);
        judged(12, 256, 6);
        judged(12, 768, 6);
        judged(12, 1024, 6);
    }

    private static void verdict7() {
        Due.sentence(TERMS, "7 STACK is 0, or no multiple of 256;");
        judged(20, 0, 7);
        judged(20, 1, 7);
        judged(20, 255, 7);
        judged(20, 256, 0);
        judged(20, 257, 7);
        judged(20, 65535, 7);
        judged(20, 65536, 0);
        judged(20, 65537, 7);
        judged(20, -1, 7);
        judged(20, Integer.MIN_VALUE + 1, 7);
    }

    private static void verdict8() {
        Due.sentence(TERMS, "8 START below 36, or not below END;");
        judged(24, 0, 8);
        judged(24, 35, 8);
        judged(24, 36, 0);
        judged(24, 37, 0);
        // between EXT and END it is below END
        judged(24, 512, 0);
        judged(24, 1023, 0);
        judged(24, 1024, 8);
        judged(24, 1025, 8);
        judged(24, Integer.MIN_VALUE, 8);
        judged(24, Integer.MIN_VALUE + 36, 8);
        judged(24, -1, 8);
    }

    private static void verdict9() {
        Due.sentence(TERMS, "9 TABLE is not 0, and below 36, or not below END;");
        judged(28, 0, 0);
        judged(28, 1, 9);
        judged(28, 35, 9);
        judged(28, 36, 0);
        judged(28, 37, 0);
        judged(28, 512, 0);
        judged(28, 1023, 0);
        judged(28, 1024, 9);
        judged(28, 1025, 9);
        judged(28, Integer.MIN_VALUE, 9);
        judged(28, Integer.MIN_VALUE + 36, 9);
        judged(28, -1, 9);
    }

    private static void verdict10() {
        Due.sentence(TERMS, "10 END above 4096, or STACK above 65536;");
        judged(16, 3840, 0);
        judged(16, 4096, 0);
        judged(16, 4352, 10);
        judged(16, Integer.MIN_VALUE, 10);
        judged(16, -256, 10);
        judged(20, 65280, 0);
        judged(20, 65536, 0);
        judged(20, 65792, 10);
        judged(20, Integer.MIN_VALUE, 10);
        judged(20, -256, 10);
    }

    private static void verdictElse() {
        Due.sentence(TERMS, "else 0.");
        Due.is("the least marks", Story.file(256, 256, 256).verdict(), 0);
        Due.is("the greatest marks", Story.file(2816, 2816, 4096).verdict(), 0);
        Due.is("a good head", Story.file().verdict(), 0);
    }
}
