import java.util.ArrayList;
import java.util.List;

/** The paragraph on REFUSALS behind "Terms", sentence by sentence, and that questions change nothing either. */
public final class RefusalTerms {
    private static final String TERMS = "Terms";

    private RefusalTerms() {
    }

    public static void run() {
        changeNothing();
        changeNothingWithoutMachine();
        changeNothingWithoutStates();
        noSuchAhead();
        boundsAheadOfTold();
        boundsAheadOfRoom();
        noMachineFirst();
        nothingStands();
        questionsChangeNothing();
    }

    /** A MACHINE with all that it can have, and a FILE that has 10 bytes of room. */
    private static GlulxHeads staged() {
        GlulxHeads x = Story.loaded();
        x.fill(2990 - 512, 9);
        x.resize(1280);
        x.block(100);
        x.block(300);
        x.block(50);
        x.free(1380);
        x.write(4, 1500, 7);
        x.write(4, 300, 8);
        x.save();
        x.write(4, 300, 9);
        x.save();
        x.write(4, 300, 10);
        x.write(4, 400, 11);
        x.protect(298, 4);
        x.write(1, -3, 0);
        return x;
    }

    private static void look(GlulxHeads x, List<Long> seen) {
        for (int what = 9; what <= 15; what++) {
            seen.add(x.told(what));
        }
        seen.add((long) x.hash(0, (int) x.told(9)));
        seen.add((long) x.changed(1));
    }

    /** All that the staged object holds, by calls that use it up. */
    private static List<Long> all(GlulxHeads x) {
        List<Long> seen = new ArrayList<>();
        seen.add((long) x.verdict());
        seen.add(x.sum());
        look(x, seen);
        for (int i = 0; i < 3; i++) {
            seen.add((long) x.block(300));
            seen.add((long) x.free(1280));
            seen.add((long) x.free(1380));
            seen.add((long) x.free(1680));
            look(x, seen);
            seen.add((long) x.restore());
            look(x, seen);
        }
        seen.add((long) x.restart());
        look(x, seen);
        seen.add((long) x.cut(512));
        seen.add((long) x.load());
        look(x, seen);
        return seen;
    }

    private static void same(String call, List<Long> got, List<Long> want) {
        Due.is("answers", got.size(), want.size());
        for (int i = 0; i < want.size(); i++) {
            Due.is(call + ": answer " + i + " behind it", got.get(i), want.get(i));
        }
    }

    // One object is refused, its twin is not asked: both must answer alike ever after.
    private static void changeNothing() {
        Due.sentence(TERMS, "REFUSALS change nothing;");
        List<Long> want = all(staged());
        for (int call = 0; call < 18; call++) {
            GlulxHeads x = staged();
            refused(x, call);
            same("refusals " + call, all(x), want);
        }
        GlulxHeads x = staged();
        for (int call = 0; call < 18; call++) {
            refused(x, call);
        }
        same("all refusals", all(x), want);
    }

    private static void refused(GlulxHeads x, int call) {
        switch (call) {
            case 0 -> Due.is("feed, no room", x.feed(1, 2, 3, 4, 5), -4);
            case 1 -> Due.is("fill, no room", x.fill(11, 1), -4);
            case 2 -> {
                Due.is("fill(0)", x.fill(0, 1), -2);
                Due.is("fill(-1)", x.fill(-1, 1), -2);
                Due.is("fill(3001)", x.fill(3001, 1), -2);
            }
            case 3 -> {
                for (int at : new int[] {-4, -1, 1, 2, 3, 2986, 2988, 2992, 3000}) {
                    Due.is("word(" + at + ")", x.word(at, -1), -1);
                }
            }
            case 4 -> {
                Due.is("cut(-1)", x.cut(-1), -1);
                Due.is("cut(2991)", x.cut(2991), -1);
            }
            case 5 -> Due.is("a load that cannot be", x.load(), 6);
            case 6 -> {
                Due.nothing("told(-1)", x.told(-1));
                Due.nothing("told(16)", x.told(16));
            }
            case 7 -> {
                Due.nothing("read(3)", x.read(3, 300));
                Due.nothing("read(0)", x.read(0, -1));
            }
            case 8 -> {
                Due.is("write(3)", x.write(3, 300, -1), -2);
                Due.is("write(0)", x.write(0, -1, -1), -2);
            }
            default -> refusedOfMemory(x, call);
        }
    }

    private static void refusedOfMemory(GlulxHeads x, int call) {
        switch (call) {
            case 9 -> {
                // The FAULT itself is told; the last one here is that of the twin.
                Due.is("write beyond M", x.write(4, 1789, -1), -3);
                Due.is("write below RAM", x.write(4, 255, -1), -3);
                Due.nothing("read beyond M", x.read(4, 1789));
                Due.is("write below 0", x.write(1, -3, 0), -3);
            }
            case 10 -> {
                Due.is("resize while THE HEAP stands", x.resize(2048), 1);
                Due.is("resize to the M that is", x.resize(1792), 1);
            }
            case 11 -> {
                Due.is("block(0)", x.block(0), -2);
                Due.is("block(-1)", x.block(-1), -2);
            }
            case 12 -> Due.is("a BLOCK that finds no place", x.block(6463), 0);
            case 13 -> {
                for (int at : new int[] {-1, 0, 1279, 1281, 1380, 1679, 1681}) {
                    Due.is("free(" + at + ")", x.free(at), -1);
                }
            }
            case 14 -> {
                Due.is("protect(-1, 9)", x.protect(-1, 9), -2);
                Due.is("protect(9, -1)", x.protect(9, -1), -2);
                Due.is("protect(8193, 9)", x.protect(8193, 9), -2);
                Due.is("protect(9, 8193)", x.protect(9, 8193), -2);
            }
            case 15 -> {
                Due.is("changed(-1)", x.changed(-1), -1);
                Due.is("changed(7)", x.changed(7), -1);
            }
            case 16 -> {
                Due.is("hash(0, -1)", x.hash(0, -1), -2);
                Due.is("hash(0, 1793)", x.hash(0, 1793), -1);
                Due.is("hash(-1, 0)", x.hash(-1, 0), -1);
            }
            default -> {
                Due.noCell(x, -1);
                Due.noCell(x, 1792);
            }
        }
    }

    private static void changeNothingWithoutMachine() {
        GlulxHeads x = Story.file();
        long sum = x.sum();
        withoutMachine(x);
        Due.is("THE FILE is as it was", x.sum(), sum);
        Due.is("THE FILE is good", x.load(), 0);
        Due.is("none is SAVED", x.told(12), 0);
        Due.is("no BLOCK", x.told(11), 0);
        Due.is("no FAULT", x.told(13), 0);
        Due.is("M", x.told(9), 1024);
        x.write(4, 300, 5);
        x.restart();
        Due.is("nothing is PROTECTED", x.changed(1), 0);
    }

    private static void changeNothingWithoutStates() {
        GlulxHeads x = Story.loaded();
        x.resize(1280);
        x.block(9);
        x.write(4, 300, 5);
        int all = x.hash(0, 1536);
        Due.is("restore, none is SAVED", x.restore(), -3);
        Due.is("M", x.told(9), 1536);
        Due.is("BLOCKS", x.told(11), 1);
        Due.is("SAVED", x.told(12), 0);
        Due.is("MEMORY", x.hash(0, 1536), all);
        Due.is("free", x.free(1280), 9);
    }

    private static void noSuchAhead() {
        Due.sentence(TERMS, "of several the first one here: -1 there is no such place, page, block;");
        GlulxHeads x = Story.loaded();
        Due.is("no such place in THE FILE", x.word(512, 1), -1);
        Due.is("a place in THE FILE", x.word(508, 1), 1);
        Due.is("no such place to cut at", x.cut(513), -1);
        Due.is("a place to cut at", x.cut(512), 0);
        Due.is("no such page", x.changed(4), -1);
        Due.is("a page", x.changed(3), 0);
        Due.is("no such block", x.free(1024), -1);
        x.block(1);
        Due.is("a block", x.free(1024), 1);
        Due.is("no such place in MEMORY", x.hash(1024, 1), -1);
        Due.is("a place in MEMORY", x.hash(1023, 1), 0);
    }

    private static void boundsAheadOfTold() {
        Due.sentence(TERMS, "-2 outside its bounds;");
        GlulxHeads x = Story.loaded();
        Due.is("a width and a FAULT", x.write(3, -1, 1), -2);
        Due.is("a width and a FAULT", x.write(5, 1024, 1), -2);
        Due.is("no FAULT by that", x.told(13), 0);
        Due.is("a FAULT alone", x.write(4, 1024, 1), -3);
        Due.is("neither", x.write(4, 1020, 1), 1);
    }

    private static void boundsAheadOfRoom() {
        Due.sentence(TERMS, "-4 no room.");
        GlulxHeads x = new GlulxHeads();
        x.fill(2999, 1);
        Due.is("bounds and room", x.fill(3001, 1), -2);
        Due.is("bounds", x.fill(0, 1), -2);
        Due.is("room", x.fill(3000, 1), -4);
        Due.is("room", x.fill(2, 1), -4);
        Due.is("room for feed", x.feed(1, 2, 3, 4, 5), -4);
        Due.is("neither", x.fill(1, 1), 3000);
        Due.is("bounds and room", x.fill(3001, 1), -2);
        Due.is("bounds and room", x.fill(0, 1), -2);
        Due.is("room", x.fill(1, 1), -4);
    }

    private static void noMachineFirst() {
        Due.sentence(TERMS, "-3 no MACHINE (asked first of all), or as told;");
        withoutMachine(new GlulxHeads());
        GlulxHeads x = Story.file();
        x.word(20, 0);
        Due.is("a load that cannot be", x.load(), 7);
        withoutMachine(x);
        x.word(20, 256);
        x.load();
        Due.is("a MACHINE: write", x.write(3, -1, 1), -2);
        Due.is("a MACHINE: resize", x.resize(-1), 1);
        Due.is("a MACHINE: block", x.block(0), -2);
        Due.is("a MACHINE: free", x.free(-1), -1);
        Due.is("a MACHINE: protect", x.protect(-1, -1), -2);
        Due.is("a MACHINE: restart", x.restart(), 1024);
        Due.is("a MACHINE: changed", x.changed(-1), -1);
        Due.is("a MACHINE: hash", x.hash(-1, -1), -2);
        Due.noCell(x, -1);
        Due.is("as told: write", x.write(1, -1, 1), -3);
        Due.is("as told: restore", x.restore(), -3);
        Due.is("a MACHINE: save", x.save(), 1);
    }

    /** Each call of memory, with arguments that are good, and with some that would be refused otherwise. */
    private static void withoutMachine(GlulxHeads x) {
        for (int what = -1; what <= 16; what++) {
            Due.nothing("no MACHINE: told(" + what + ")", x.told(what));
        }
        for (int v : new int[] {Integer.MIN_VALUE, -1, 0, 1, 2, 3, 4, 256, 1024, 8192, 8193, Integer.MAX_VALUE}) {
            Due.nothing("no MACHINE: read", x.read(1, v));
            Due.nothing("no MACHINE: read", x.read(v, 300));
            Due.is("no MACHINE: write", x.write(1, v, 1), -3);
            Due.is("no MACHINE: write", x.write(v, 300, 1), -3);
            Due.is("no MACHINE: resize", x.resize(v), -3);
            Due.is("no MACHINE: block", x.block(v), -3);
            Due.is("no MACHINE: free", x.free(v), -3);
            Due.is("no MACHINE: protect", x.protect(v, 9), -3);
            Due.is("no MACHINE: protect", x.protect(9, v), -3);
            Due.is("no MACHINE: changed", x.changed(v), -3);
            Due.is("no MACHINE: hash", x.hash(v, 1), -3);
            Due.is("no MACHINE: hash", x.hash(1, v), -3);
            Due.cell(x, v, -3);
        }
        Due.is("no MACHINE: restart", x.restart(), -3);
        Due.is("no MACHINE: save", x.save(), -3);
        Due.is("no MACHINE: restore", x.restore(), -3);
    }

    private static void nothingStands() {
        Due.sentence(TERMS, "NOTHING stands for all of them where a long is answered.");
        Due.is("NOTHING", GlulxHeads.NOTHING, -9223372036854775808L);
        GlulxHeads x = new GlulxHeads();
        Due.nothing("sum", x.sum());
        Due.nothing("told, -3", x.told(0));
        Due.nothing("read, -3", x.read(1, 0));
        x.fill(36, 1);
        Due.is("sum is none", x.sum() >= 0 ? 1 : 0, 1);
        x = Story.loaded();
        Due.nothing("told, -2", x.told(16));
        Due.nothing("read, -2", x.read(3, 0));
        Due.nothing("read, -1", x.read(1, 1024));
        Due.is("told is none", x.told(15), 0);
        Due.is("read is none", x.read(1, 1023), 0);
    }

    private static void questionsChangeNothing() {
        Due.sentence("Not promised", "Nothing is promised beyond the answers and state changes described above,");
        List<Long> want = all(staged());
        GlulxHeads x = staged();
        for (int i = 0; i < 2; i++) {
            Due.is("verdict", x.verdict(), 6);
            Due.is("sum", x.sum(), want.get(1));
            Due.is("cut at the end", x.cut(2990), 0);
            Due.is("read", x.read(4, 300), 10);
            Due.is("changed", x.changed(6), 0);
            Due.is("hash", x.hash(1788, 4), 0);
            Due.cell(x, 1791, 0);
            for (int what = 0; what <= 15; what++) {
                Due.is("told(" + what + ")", x.told(what) >= -3 ? 1 : 0, 1);
            }
        }
        same("questions", all(x), want);
    }
}
