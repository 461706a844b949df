import java.util.concurrent.atomic.AtomicInteger;

/** "What it is" and "Not promised": what can be asked of them. */
public final class WholeSentences {
    private static final String WHAT = "What it is";
    private static final String NOT = "Not promised";

    private WholeSentences() {
    }

    public static void run() {
        GlulxHeads x = new GlulxHeads();
        file(x);
        memory(x);
        heap(x);
        states(x);
        asked(x);
        lastCall();
        free();
        threads();
    }

    private static void file(GlulxHeads x) {
        Due.sentence(WHAT, "Files of a story machine of 32 bits:");
        Story.put(x, 512, 768, 1024);
        Due.is("a number of 32 bits", x.word(36, -1), 1);
        Due.sentence(WHAT, "their heads judged,");
        Due.is("verdict", x.verdict(), 0);
        x.word(0, 1);
        Due.is("another mark", x.verdict(), 2);
        x.word(0, Story.MARK);
        Due.is("load", x.load(), 0);
    }

    private static void memory(GlulxHeads x) {
        Due.sentence(WHAT, "Files of a story machine of 32 bits:");
        Due.is("all 32 of them", x.read(4, 36), 4294967295L);
        Due.sentence(WHAT, "memory by marks,");
        Due.is("RAM", x.write(1, 511, 1), -3);
        Due.is("RAM", x.write(1, 512, 1), 1);
        Due.is("EXT", x.hash(768, 256), 0);
        Due.is("END", x.told(9), 1024);
        Due.sentence(WHAT, "read and written by three widths with faults that are told,");
        for (int width = 0; width <= 5; width++) {
            boolean good = width == 1 || width == 2 || width == 4;
            Due.is("write by " + width, x.write(width, 768, -1), good ? 1 : -2);
            Due.is("read by " + width, x.read(width, 768), good ? (1L << 8 * width) - 1 : GlulxHeads.NOTHING);
        }
        Due.nothing("read beyond", x.read(2, 1023));
        Due.is("the fault", x.told(13), 1);
        Due.is("its place", x.told(14), 1023);
        Due.sentence(WHAT, "resized,");
        Due.is("resize", x.resize(1280), 0);
        Due.is("it can be read", x.read(2, 1023), 0);
    }

    private static void heap(GlulxHeads x) {
        Due.sentence(WHAT, "a heap of blocks on top of it,");
        Due.is("the first", x.block(256), 1280);
        Due.is("the second", x.block(1), 1536);
        Due.is("where it began", x.told(10), 1280);
        Due.is("free", x.free(1280), 256);
        Due.is("free", x.free(1536), 1);
        Due.is("M", x.told(9), 1280);
    }

    private static void states(GlulxHeads x) {
        Due.sentence(WHAT, "a range that stays,");
        x.write(4, 600, 0x01020304);
        x.protect(601, 2);
        Due.sentence(WHAT, "restarts,");
        Due.is("restart", x.restart(), 1024);
        Due.is("what stayed", x.read(2, 601), 0x0203);
        Due.is("what did not", x.read(1, 768), 0);
        Due.sentence(WHAT, "two states to go back to,");
        x.protect(0, 0);
        for (int v = 1; v <= 3; v++) {
            x.write(1, 768, v);
            x.save();
        }
        x.restore();
        Due.is("the latest", x.read(1, 768), 3);
        x.restore();
        Due.is("the elder", x.read(1, 768), 2);
        Due.is("no third", x.restore(), -3);
    }

    private static void asked(GlulxHeads x) {
        Due.sentence(WHAT, "a sum that is asked,");
        Due.is("it was not right", x.told(15), 0);
        x.word(32, (int) x.sum());
        Due.sentence(WHAT, "pages that have changed.");
        Due.is("changed", x.changed(3), 1);
        x.load();
        Due.is("not changed", x.changed(3), 0);
        Due.is("it was right", x.told(15), 1);
    }

    private static void lastCall() {
        Due.sentence(WHAT, "An object is used for at most 512 calls after it has been made; what later calls answer is "
            + "free.");
        usedUp(0);
        Due.sentence(NOT, "and nothing about an object after its 512th call.");
        usedUp(100);
    }

    // Eleven calls make the file, one loads it; the last one that is promised must be as good as the others.
    private static void usedUp(int first) {
        GlulxHeads x = Story.loaded();
        for (int i = 0; i < first; i++) {
            Due.is("save", x.save(), i == 0 ? 1 : 2);
        }
        for (int call = 13 + first; call <= 510; call++) {
            Due.is("call " + call, x.write(1, 600, call), 1);
        }
        Due.is("call 511", x.read(1, 600), 510 & 255);
        Due.is("call 512", x.restart(), 1024);
    }

    // What they answer is free, but no promised answer may hang on them.
    private static void free() {
        Due.sentence(NOT, "How the state is held inside the object is free, as are the speed of each call, the text of "
            + "toString and the behaviour of equals and hashCode.");
        GlulxHeads x = Story.loaded();
        GlulxHeads y = Story.loaded();
        boolean told = x.toString() == null | x.equals(y) | x.hashCode() == y.hashCode();
        Due.is("all of memory, whatever they say (" + told + ")", x.hash(0, 1024), y.hash(0, 1024));
        x.write(1, 600, 1);
        Due.is("one has nothing of the other", y.read(1, 600), 0);
    }

    // Of one object that is not promised; objects that each have a thread of their own share nothing.
    private static void threads() {
        Due.sentence(NOT, "Use of one object from several threads at once is not promised to be safe.");
        AtomicInteger wrong = new AtomicInteger();
        Thread[] all = new Thread[4];
        for (int i = 0; i < all.length; i++) {
            GlulxHeads x = Story.loaded();
            int own = i + 1;
            all[i] = new Thread(() -> wrong.addAndGet(useAlone(x, own)));
        }
        for (Thread one : all) {
            one.start();
        }
        for (Thread one : all) {
            join(one);
        }
        Due.is("answers that another thread spoiled", wrong.get(), 0);
    }

    private static int useAlone(GlulxHeads x, int own) {
        int wrong = 0;
        for (int i = 0; i < 100; i++) {
            wrong += x.write(4, 600, own * 1000 + i) == 1 ? 0 : 1;
            wrong += x.save() == Math.min(2, i + 1) ? 0 : 1;
            wrong += x.read(4, 600) == own * 1000 + i ? 0 : 1;
        }
        return wrong;
    }

    private static void join(Thread one) {
        try {
            one.join();
        } catch (InterruptedException e) {
            Due.is("a thread was broken off", 1, 0);
        }
    }
}
