/** Objects with a file whose head is good. */
public final class Story {
    public static final int MARK = 0x476C756C;
    public static final int RAM = 256;
    public static final int EXT = 512;
    public static final int END = 1024;

    private Story() {
    }

    /** RAM 256, EXT 512, END 1024, not loaded. */
    public static GlulxHeads file() {
        return file(RAM, EXT, END);
    }

    public static GlulxHeads file(int ram, int ext, int end) {
        GlulxHeads x = new GlulxHeads();
        put(x, ram, ext, end);
        return x;
    }

    /** Puts such a file in place of the one that the object has. */
    public static void put(GlulxHeads x, int ram, int ext, int end) {
        x.cut(0);
        x.fill(ext, 77);
        int[] head = {MARK, 0x30102, ram, ext, end, 256, 36, 0, 0};
        for (int i = 0; i < head.length; i++) {
            x.word(4 * i, head[i]);
        }
    }

    public static GlulxHeads loaded() {
        return loaded(RAM, EXT, END);
    }

    public static GlulxHeads loaded(int ram, int ext, int end) {
        GlulxHeads x = file(ram, ext, end);
        Due.is("load()", x.load(), 0);
        return x;
    }
}
