import java.math.BigInteger;

/** Promises 15 to 21, sentence by sentence. */
public final class StateSentences {
    private static final int MIN = Integer.MIN_VALUE;
    private static final int MAX = Integer.MAX_VALUE;

    private StateSentences() {
    }

    public static void run() {
        protect();
        protectRefused();
        restart();
        save();
        restore();
        restoreRefused();
        changed();
        changedFromEndOn();
        changedRefused();
        hash();
        hashRefusedFirst();
        hashRefused();
        cell();
        cellThrows();
        cellRefused();
    }

    /** Which of the bytes from a place on stay at a restart, the first as the highest digit. */
    private static long staying(GlulxHeads x, int at, int n) {
        for (int i = 0; i < n; i++) {
            x.write(1, at + i, 1);
        }
        x.restart();
        long digits = 0;
        for (int i = 0; i < n; i++) {
            digits = 10 * digits + x.read(1, at + i);
        }
        return digits;
    }

    private static void protect() {
        Due.sentence("Promise 15", "PROTECTED are n bytes from a place on (n 0: none): 1.");
        GlulxHeads x = Story.loaded();
        Due.is("none yet", staying(x, 600, 6), 0);
        Due.is("protect(602, 3)", x.protect(602, 3), 1);
        Due.is("three bytes", staying(x, 600, 6), 1110);
        Due.is("protect(602, 2)", x.protect(602, 2), 1);
        Due.is("two bytes", staying(x, 600, 6), 1100);
        Due.is("protect(602, 1)", x.protect(602, 1), 1);
        Due.is("one byte", staying(x, 600, 6), 1000);
        Due.is("protect(602, 0)", x.protect(602, 0), 1);
        Due.is("none", staying(x, 600, 6), 0);
        Due.is("protect(600, 1)", x.protect(600, 1), 1);
        Due.is("protect(605, 1)", x.protect(605, 1), 1);
        Due.is("the latest alone", staying(x, 600, 6), 1);
        Due.is("it stays for the next one", staying(x, 600, 6), 1);
        Due.is("protect(0, 0)", x.protect(0, 0), 1);
        Due.is("none", staying(x, 600, 6), 0);
        Due.is("protect(1022, 2)", x.protect(1022, 2), 1);
        Due.is("up to M", staying(x, 1018, 6), 11);
        Due.is("protect(256, 2)", x.protect(256, 2), 1);
        x.write(4, 256, 0x01010101);
        x.restart();
        Due.is("from RAM on", x.read(2, 256), 0x0101);
        Due.is("PROTECTED may be written", x.write(1, 256, 9), 1);
        Due.is("protect makes no FAULT", x.told(13), 0);
    }

    private static void protectRefused() {
        Due.sentence("Promise 15", "-2 the place, or n, is below 0, or above 8192 (they may end behind that).");
        GlulxHeads x = Story.loaded();
        x.protect(602, 2);
        int[] wrong = {MIN, -8192, -1, 8193, 8194, MAX};
        int[] good = {0, 1, 602, 8191, 8192};
        for (int v : wrong) {
            for (int w : good) {
                Due.is("protect(" + v + ", " + w + ")", x.protect(v, w), -2);
                Due.is("protect(" + w + ", " + v + ")", x.protect(w, v), -2);
            }
            Due.is("protect(" + v + ", " + v + ")", x.protect(v, v), -2);
        }
        Due.is("the range is as it was", staying(x, 600, 6), 1100);
        for (int v : good) {
            for (int w : good) {
                Due.is("protect(" + v + ", " + w + ")", x.protect(v, w), 1);
            }
        }
        Due.is("they end behind 8192", x.protect(603, 8192), 1);
        Due.is("all from there on", staying(x, 600, 6), 111);
        Due.is("they begin at 8192", x.protect(8192, 8192), 1);
        Due.is("none of MEMORY", staying(x, 600, 6), 0);
        Due.is("they begin at 0", x.protect(0, 8192), 1);
        Due.is("all of MEMORY", staying(x, 600, 6), 111111);
    }

    private static void restart() {
        Due.sentence("Promise 16", "RESTART: M.");
        for (int end : new int[] {256, 1024, 4096}) {
            GlulxHeads x = Story.loaded(256, 256, end);
            Due.is("nothing has changed", x.restart(), end);
            x.resize(4096);
            Due.is("after resize", x.restart(), end);
            x.block(8192 - end);
            Due.is("after block", x.restart(), end);
            Due.is("again", x.restart(), end);
            x.protect(0, 8192);
            x.block(1);
            Due.is("with a range beyond M", x.restart(), end);
        }
    }

    private static void save() {
        Due.sentence("Promise 17", "A STATE is SAVED: how many.");
        GlulxHeads x = Story.loaded();
        Due.is("the first", x.save(), 1);
        Due.is("the second", x.save(), 2);
        Due.is("the third", x.save(), 2);
        x.restore();
        Due.is("one was there", x.save(), 2);
        x.restore();
        x.restore();
        Due.is("none was there", x.save(), 1);
        x.restart();
        Due.is("after restart", x.save(), 2);
        x.write(4, 300, 5);
        int all = x.hash(0, 1024);
        x.save();
        Due.is("MEMORY is as it was", x.hash(0, 1024), all);
        Due.is("M is as it was", x.told(9), 1024);
    }

    private static void restore() {
        Due.sentence("Promise 18", "RESTORE: M.");
        GlulxHeads x = Story.loaded();
        x.save();
        x.resize(4096);
        Due.is("a smaller M", x.restore(), 1024);
        x.resize(4096);
        x.save();
        x.resize(1024);
        Due.is("a greater M", x.restore(), 4096);
        x.block(4096);
        x.save();
        x.restart();
        Due.is("the greatest M", x.restore(), 8192);
        Due.is("its BLOCK", x.free(4096), 4096);
        x.save();
        Due.is("the same M", x.restore(), 4096);
    }

    private static void restoreRefused() {
        Due.sentence("Promise 18", "-3 none is SAVED.");
        GlulxHeads x = Story.loaded();
        x.write(4, 300, 5);
        int all = x.hash(0, 1024);
        Due.is("none", x.restore(), -3);
        Due.is("MEMORY is as it was", x.hash(0, 1024), all);
        Due.is("SAVED", x.told(12), 0);
        x.save();
        x.save();
        x.save();
        Due.is("two", x.restore(), 1024);
        Due.is("one", x.restore(), 1024);
        Due.is("none", x.restore(), -3);
        Due.is("none", x.restore(), -3);
        Due.is("SAVED", x.told(12), 0);
        x.save();
        x.load();
        Story.put(x, 256, 512, 1024);
        x.load();
        Due.is("none of a new MACHINE", x.restore(), -3);
    }

    private static void changed() {
        Due.sentence("Promise 19", "Whether a page of 256 bytes (below M) has another byte than as LOADED");
        GlulxHeads x = Story.loaded();
        for (int page = 0; page < 4; page++) {
            Due.is("changed(" + page + ")", x.changed(page), 0);
        }
        for (int at : new int[] {256, 511, 512, 767, 768, 1023}) {
            int was = (int) x.read(1, at);
            x.write(1, at, was ^ 128);
            for (int page = 0; page < 4; page++) {
                Due.is("place " + at + ": changed(" + page + ")", x.changed(page), page == at / 256 ? 1 : 0);
            }
            x.write(1, at, was);
            Due.is("as it was: " + at, x.changed(at / 256), 0);
        }
        x.write(2, 511, (int) x.read(2, 511) ^ 0x0101);
        Due.is("two pages", x.changed(1), 1);
        Due.is("two pages", x.changed(2), 1);
        x.save();
        Due.is("SAVED is not LOADED", x.changed(1), 1);
        x.restart();
        Due.is("restart", x.changed(1), 0);
        x.restore();
        Due.is("restore", x.changed(1), 1);
    }

    private static void changedFromEndOn() {
        Due.sentence("Promise 19", "(0 from END on): 1, 0.");
        GlulxHeads x = Story.loaded();
        x.resize(1536);
        Due.is("the first page from END on", x.changed(4), 0);
        x.write(1, 1024, 1);
        Due.is("its first byte", x.changed(4), 1);
        Due.is("the page ahead of it", x.changed(3), 0);
        Due.is("the page behind it", x.changed(5), 0);
        x.write(1, 1024, 0);
        Due.is("0 again", x.changed(4), 0);
        x.write(1, 1535, 255);
        Due.is("the last byte", x.changed(5), 1);
        x.resize(1280);
        x.resize(1536);
        Due.is("new bytes", x.changed(5), 0);
        x.block(6656);
        Due.is("the last page of all", x.changed(31), 0);
        x.write(1, 8191, 1);
        Due.is("its last byte", x.changed(31), 1);
        Due.is("behind it", x.changed(32), -1);
    }

    private static void changedRefused() {
        Due.sentence("Promise 19", "-1.");
        GlulxHeads x = Story.loaded();
        for (int page : new int[] {MIN, MIN / 256, -256, -1, 4, 5, 31, 32, 256, 1024, 1 << 24, 1 << 30, MAX}) {
            Due.is("changed(" + page + ")", x.changed(page), -1);
        }
        Due.is("the first", x.changed(0), 0);
        Due.is("the last", x.changed(3), 0);
        x.resize(1280);
        Due.is("one more", x.changed(4), 0);
        Due.is("behind it", x.changed(5), -1);
        x.resize(1024);
        Due.is("it is gone", x.changed(4), -1);
    }

    /** With numbers that have no bound, and a remainder at the end. */
    private static int due(int... bytes) {
        BigInteger s = BigInteger.ZERO;
        for (int b : bytes) {
            s = s.multiply(BigInteger.valueOf(31)).add(BigInteger.valueOf(b));
        }
        return s.intValue();
    }

    private static void hash() {
        Due.sentence("Promise 20", "s is 0; for each of n bytes from a place on s becomes 31 s and the byte, in 32 "
            + "bits.");
        GlulxHeads x = Story.loaded();
        Due.is("none", x.hash(0, 0), 0);
        Due.is("one", x.hash(0, 1), 0x47);
        Due.is("two", x.hash(0, 2), due(0x47, 0x6C));
        Due.is("from the second on", x.hash(1, 3), due(0x6C, 0x75, 0x6C));
        x.write(4, 1016, -1);
        x.write(4, 1020, 0x80FF7F01);
        Due.is("beyond 31 bits", x.hash(1016, 7), due(255, 255, 255, 255, 128, 255, 127));
        Due.is("beyond 32 bits", x.hash(1016, 8), due(255, 255, 255, 255, 128, 255, 127, 1));
        Due.is("the last byte", x.hash(1023, 1), 1);
        Due.is("without sign", x.hash(1020, 1), 128);
        GlulxHeads y = Story.loaded(256, 256, 256);
        int[] all = new int[256];
        for (int at = 0; at < 256; at++) {
            all[at] = (int) y.read(1, at);
        }
        Due.is("all of MEMORY", y.hash(0, 256), due(all));
        y.block(7936);
        Due.is("all of the greatest MEMORY", y.hash(256, 7936), 0);
        y.write(1, 8191, 9);
        Due.is("up to its last byte", y.hash(256, 7936), 9);
    }

    private static void hashRefusedFirst() {
        Due.sentence("Promise 20", "-2 (first) n below 0;");
        GlulxHeads x = Story.loaded();
        for (int at : new int[] {MIN, -1, 0, 1, 1023, 1024, 1025, MAX}) {
            Due.is("hash(" + at + ", -1)", x.hash(at, -1), -2);
            Due.is("hash(" + at + ", min)", x.hash(at, MIN), -2);
            Due.is("hash(" + at + ", 0)", x.hash(at, 0), at < 0 || at > 1024 ? -1 : 0);
        }
    }

    private static void hashRefused() {
        Due.sentence("Promise 20", "-1 they are not all below M (none: a place above M, below 0).");
        GlulxHeads x = Story.loaded();
        Due.is("the last four", x.hash(1020, 4), 0);
        Due.is("one more", x.hash(1020, 5), -1);
        Due.is("one more at the front", x.hash(1021, 4), -1);
        Due.is("from M on", x.hash(1024, 1), -1);
        Due.is("from above M on", x.hash(1025, 1), -1);
        Due.is("from below 0 on", x.hash(-1, 1), -1);
        Due.is("from below 0 on", x.hash(-1, 2), -1);
        Due.is("all, from below 0 on", x.hash(-1, 1025), -1);
        Due.is("512 of them", x.hash(512, 512), 0);
        Due.is("513 of them", x.hash(512, 513), -1);
        Due.is("more than all", x.hash(0, 1025), -1);
        for (int at : new int[] {MIN, -1, 0, 1, 1024, MAX}) {
            Due.is("hash(" + at + ", max)", x.hash(at, MAX), -1);
        }
        Due.is("none at M", x.hash(1024, 0), 0);
        Due.is("none above M", x.hash(1025, 0), -1);
        Due.is("none far above M", x.hash(MAX, 0), -1);
        Due.is("none at 0", x.hash(0, 0), 0);
        Due.is("none below 0", x.hash(-1, 0), -1);
        Due.is("none far below 0", x.hash(MIN, 0), -1);
        Due.is("no FAULT", x.told(13), 0);
        x.resize(1280);
        Due.is("another M", x.hash(1025, 255), 0);
        Due.is("one more", x.hash(1025, 256), -1);
    }

    private static void cell() {
        Due.sentence("Promise 21", "A byte of MEMORY.");
        GlulxHeads x = Story.loaded();
        Due.cell(x, 0, 0x47);
        for (int v : new int[] {0, 1, 127, 128, 255}) {
            x.write(1, 1023, v);
            Due.cell(x, 1023, v);
            x.write(1, 256, v);
            Due.cell(x, 256, v);
        }
        Due.cell(x, 512, 0);
    }

    private static void cellThrows() {
        Due.sentence("Promise 21", "IndexOutOfBoundsException: a place that is not there.");
        GlulxHeads x = Story.loaded();
        for (int at : new int[] {MIN, -1024, -1, 1024, 1025, 4096, 8191, 8192, MAX}) {
            Due.noCell(x, at);
        }
        Due.cell(x, 0, 0x47);
        Due.cell(x, 1023, 0);
        Due.is("no FAULT", x.told(13), 0);
        x.block(7168);
        Due.cell(x, 8191, 0);
        Due.noCell(x, 8192);
        x.free(1024);
        Due.noCell(x, 1024);
        Due.is("M is as it was", x.told(9), 1024);
    }

    private static void cellRefused() {
        Due.sentence("Promise 21", "-3.");
        GlulxHeads x = Story.file();
        for (int at : new int[] {MIN, -1, 0, 1023, 1024, MAX}) {
            Due.cell(x, at, -3);
        }
        x.load();
        Due.cell(x, 0, 0x47);
        Due.noCell(x, -1);
    }
}
