import java.util.ArrayList;
import java.util.Arrays;
import java.util.TreeMap;

/** The document once more, with other means than the program: slow, and with fresh copies of everything. */
public final class Model {
    public static final int THROWS = Integer.MIN_VALUE;

    private static final class Snapshot {
        int[] memory;
        TreeMap<Integer, Integer> blocks = new TreeMap<>();
        int heap;

        Snapshot copy() {
            Snapshot s = new Snapshot();
            s.memory = memory.clone();
            s.blocks.putAll(blocks);
            s.heap = heap;
            return s;
        }
    }

    private final ArrayList<Integer> file = new ArrayList<>();
    private int[] loaded;
    private Snapshot now;
    private ArrayList<Snapshot> saved = new ArrayList<>();
    private long faultKind;
    private long faultPlace;
    private int rangeAt;
    private int rangeLength;
    private boolean right;

    private static long wordOf(int[] bytes, int at) {
        long v = 0;
        for (int i = at; i < at + 4; i++) {
            v = v * 256 + (i < bytes.length ? bytes[i] : 0);
        }
        return v;
    }

    private int[] fileBytes() {
        return file.stream().mapToInt(Integer::intValue).toArray();
    }

    public int feed(int... words) {
        if (file.size() + 20 > 3000) {
            return -4;
        }
        for (int w : words) {
            for (int shift = 24; shift >= 0; shift -= 8) {
                file.add((w >> shift) & 255);
            }
        }
        return file.size();
    }

    public int fill(int n, int seed) {
        if (n < 1 || n > 3000) {
            return -2;
        }
        if ((long) file.size() + n > 3000) {
            return -4;
        }
        int x = seed;
        for (int i = 0; i < n; i++) {
            x = x * 1103515245 + 12345;
            file.add((x >> 16) & 255);
        }
        return file.size();
    }

    public int word(int at, int v) {
        if (at < 0 || at % 4 != 0 || at + 4L > file.size()) {
            return -1;
        }
        for (int i = 0; i < 4; i++) {
            file.set(at + i, (v >> (24 - 8 * i)) & 255);
        }
        return 1;
    }

    public int cut(int n) {
        if (n < 0 || n > file.size()) {
            return -1;
        }
        int went = 0;
        while (file.size() > n) {
            file.remove(file.size() - 1);
            went++;
        }
        return went;
    }

    public int verdict() {
        int[] b = fileBytes();
        if (b.length < 36) {
            return 1;
        }
        long[] h = new long[9];
        for (int i = 0; i < 9; i++) {
            h[i] = wordOf(b, 4 * i);
        }
        boolean[] bad = {
            h[0] != 0x476C756CL,
            h[1] < 0x20000 || h[1] > 0x301FF,
            h[2] % 256 + h[3] % 256 + h[4] % 256 > 0,
            !(256 <= h[2] && h[2] <= h[3] && h[3] <= h[4]),
            h[3] != b.length,
            h[5] == 0 || h[5] % 256 > 0,
            h[6] < 36 || h[6] >= h[4],
            h[7] != 0 && (h[7] < 36 || h[7] >= h[4]),
            h[4] > 4096 || h[5] > 65536
        };
        for (int i = 0; i < bad.length; i++) {
            if (bad[i]) {
                return i + 2;
            }
        }
        return 0;
    }

    public long sum() {
        int[] b = fileBytes();
        if (b.length < 36) {
            return Long.MIN_VALUE;
        }
        long total = 0;
        for (int at = 0; at < b.length; at += 4) {
            total = (total + (at == 32 ? 0 : wordOf(b, at))) % 4294967296L;
        }
        return total;
    }

    public int load() {
        int v = verdict();
        if (v == 0) {
            int[] b = fileBytes();
            loaded = Arrays.copyOf(b, (int) wordOf(b, 16));
            now = asLoaded();
            saved = new ArrayList<>();
            faultKind = 0;
            faultPlace = 0;
            rangeAt = 0;
            rangeLength = 0;
            right = sum() == wordOf(b, 32);
        }
        return v;
    }

    private Snapshot asLoaded() {
        Snapshot s = new Snapshot();
        s.memory = loaded.clone();
        return s;
    }

    public long told(int what) {
        if (now == null || what < 0 || what > 15) {
            return Long.MIN_VALUE;
        }
        if (what < 9) {
            return wordOf(loaded, 4 * what);
        }
        long[] rest = {now.memory.length, now.heap, now.blocks.size(), saved.size(), faultKind, faultPlace,
            right ? 1 : 0};
        return rest[what - 9];
    }

    public long read(int width, int at) {
        if (now == null || width != 1 && width != 2 && width != 4) {
            return Long.MIN_VALUE;
        }
        if (at < 0 || (long) at + width > now.memory.length) {
            faultKind = 1;
            faultPlace = at;
            return Long.MIN_VALUE;
        }
        return wordOf(now.memory, at) >> (32 - 8 * width);
    }

    public int write(int width, int at, int v) {
        if (now == null) {
            return -3;
        }
        if (width != 1 && width != 2 && width != 4) {
            return -2;
        }
        int fault = at < wordOf(loaded, 8) ? 2 : (long) at + width > now.memory.length ? 3 : 0;
        if (fault != 0) {
            faultKind = fault;
            faultPlace = at;
            return -3;
        }
        for (int i = 0; i < width; i++) {
            now.memory[at + i] = (v >> (8 * (width - 1 - i))) & 255;
        }
        return 1;
    }

    public int resize(int n) {
        if (now == null) {
            return -3;
        }
        if (n < loaded.length || n > 4096 || n % 256 != 0 || !now.blocks.isEmpty()) {
            return 1;
        }
        now.memory = Arrays.copyOf(now.memory, n);
        return 0;
    }

    public int block(int n) {
        if (now == null) {
            return -3;
        }
        if (n < 1) {
            return -2;
        }
        int from = now.blocks.isEmpty() ? now.memory.length : now.heap;
        int place = now.blocks.size() == 16 ? 0 : leastPlace(from, n);
        if (place == 0) {
            return 0;
        }
        now.heap = from;
        now.blocks.put(place, n);
        int m = now.memory.length;
        for (int at : now.blocks.keySet()) {
            while (m < at + now.blocks.get(at)) {
                m += 256;
            }
        }
        now.memory = Arrays.copyOf(now.memory, m);
        return place;
    }

    // Byte by byte: the first run of n bytes that no block has.
    private int leastPlace(int from, int n) {
        boolean[] taken = new boolean[8192];
        now.blocks.forEach((at, length) -> Arrays.fill(taken, at, at + length, true));
        int run = 0;
        for (int at = from; at < 8192; at++) {
            run = taken[at] ? 0 : run + 1;
            if (run == n) {
                return at - n + 1;
            }
        }
        return 0;
    }

    public int free(int at) {
        if (now == null) {
            return -3;
        }
        Integer n = now.blocks.remove(at);
        if (n == null) {
            return -1;
        }
        if (now.blocks.isEmpty()) {
            now.memory = Arrays.copyOf(now.memory, now.heap);
            now.heap = 0;
        }
        return n;
    }

    /** The place of one of the blocks: for the choice of calls, not for their answers. */
    public int someBlock(int index) {
        Integer[] places = now.blocks.keySet().toArray(new Integer[0]);
        return places[index % places.length];
    }

    public int protect(int at, int n) {
        if (now == null) {
            return -3;
        }
        if (at < 0 || n < 0 || at > 8192 || n > 8192) {
            return -2;
        }
        rangeAt = at;
        rangeLength = n;
        return 1;
    }

    private int goTo(Snapshot then) {
        for (int i = rangeAt; i < rangeAt + rangeLength; i++) {
            if (i < now.memory.length && i < then.memory.length) {
                then.memory[i] = now.memory[i];
            }
        }
        now = then;
        return now.memory.length;
    }

    public int restart() {
        return now == null ? -3 : goTo(asLoaded());
    }

    public int save() {
        if (now == null) {
            return -3;
        }
        saved.add(now.copy());
        if (saved.size() > 2) {
            saved.remove(0);
        }
        return saved.size();
    }

    public int restore() {
        return now == null || saved.isEmpty() ? -3 : goTo(saved.remove(saved.size() - 1));
    }

    public int changed(int page) {
        if (now == null) {
            return -3;
        }
        if (page < 0 || page * 256L >= now.memory.length) {
            return -1;
        }
        int[] was = Arrays.copyOf(loaded, 8192);
        return Arrays.equals(now.memory, page * 256, page * 256 + 256, was, page * 256, page * 256 + 256) ? 0 : 1;
    }

    public int hash(int at, int n) {
        if (now == null) {
            return -3;
        }
        if (n < 0) {
            return -2;
        }
        if (at < 0 || (long) at + n > now.memory.length) {
            return -1;
        }
        int s = 0;
        for (int b : Arrays.copyOfRange(now.memory, at, at + n)) {
            s = s * 31 + b;
        }
        return s;
    }

    public int cell(int at) {
        if (now == null) {
            return -3;
        }
        return at < 0 || at >= now.memory.length ? THROWS : now.memory[at];
    }
}
