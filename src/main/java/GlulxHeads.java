/**
 * Files of a story machine of 32 bits, and the memory of the machine that they are loaded into.
 * The words in capitals in the comments are those of the document.
 */
public final class GlulxHeads {
    public static final long NOTHING = Long.MIN_VALUE;

    private static final int NO_SUCH_PLACE = -1;
    private static final int OUT_OF_BOUNDS = -2;
    private static final int NOT_POSSIBLE = -3;
    private static final int NO_ROOM = -4;

    private static final int FILE_ROOM = 3000;
    private static final int MEMORY_ROOM = 8192;
    private static final int RESIZE_LIMIT = 4096;
    private static final int STACK_LIMIT = 65536;
    private static final int PAGE = 256;
    private static final int MOST_BLOCKS = 16;
    private static final int MOST_STATES = 2;

    private static final int HEAD_BYTES = 36;
    private static final int MARK_AT = 0;
    private static final int VERSION_AT = 4;
    private static final int RAM_AT = 8;
    private static final int EXT_AT = 12;
    private static final int END_AT = 16;
    private static final int STACK_AT = 20;
    private static final int START_AT = 24;
    private static final int TABLE_AT = 28;
    private static final int SUM_AT = 32;

    private static final long MARK = 0x476C756CL;
    private static final long LEAST_VERSION = 0x20000L;
    private static final long GREATEST_VERSION = 0x301FFL;
    private static final long WORD_MASK = 0xFFFFFFFFL;

    private static final int READ_FAULT = 1;
    private static final int BELOW_RAM_FAULT = 2;
    private static final int WRITE_FAULT = 3;

    private final StoryFile file;

    // Made by the first load and used again by later ones, so that an object that never loads stays small.
    private Machine machine;

    public GlulxHeads() {
        file = new StoryFile();
        machine = null;
    }

    // ---- the file

    public int feed(int a, int b, int c, int d, int e) {
        if (!file.hasRoomFor(20)) {
            return NO_ROOM;
        }
        file.appendWord(a);
        file.appendWord(b);
        file.appendWord(c);
        file.appendWord(d);
        file.appendWord(e);
        return file.length;
    }

    public int fill(int n, int seed) {
        if (n < 1 || n > FILE_ROOM) {
            return OUT_OF_BOUNDS;
        }
        if (!file.hasRoomFor(n)) {
            return NO_ROOM;
        }
        int x = seed;
        for (int i = 0; i < n; i++) {
            x = x * 1103515245 + 12345;
            file.appendByte(x >>> 16);
        }
        return file.length;
    }

    public int word(int at, int v) {
        if (!file.hasWholeWord(at)) {
            return NO_SUCH_PLACE;
        }
        file.putWord(at, v);
        return 1;
    }

    public int cut(int n) {
        if (n < 0 || n > file.length) {
            return NO_SUCH_PLACE;
        }
        int gone = file.length - n;
        file.length = n;
        return gone;
    }

    public int verdict() {
        return file.judge();
    }

    public long sum() {
        return file.length < HEAD_BYTES ? NOTHING : file.rightSum();
    }

    public int load() {
        int judged = file.judge();
        if (judged == 0) {
            if (machine == null) {
                machine = new Machine();
            }
            machine.begin(file);
        }
        return judged;
    }

    // ---- memory

    public long told(int what) {
        if (machine == null || what < 0 || what > 15) {
            return NOTHING;
        }
        return what <= 8 ? machine.loaded.valueAt(4, 4 * what) : machine.tell(what);
    }

    public long read(int width, int at) {
        if (machine == null || !isWidth(width)) {
            return NOTHING;
        }
        if (!machine.now.holds(at, width)) {
            machine.noteFault(READ_FAULT, at);
            return NOTHING;
        }
        return machine.now.valueAt(width, at);
    }

    public int write(int width, int at, int v) {
        if (machine == null) {
            return NOT_POSSIBLE;
        }
        if (!isWidth(width)) {
            return OUT_OF_BOUNDS;
        }
        int fault = machine.writeFault(width, at);
        if (fault != 0) {
            machine.noteFault(fault, at);
            return NOT_POSSIBLE;
        }
        machine.now.putValue(width, at, v);
        return 1;
    }

    public int resize(int n) {
        if (machine == null) {
            return NOT_POSSIBLE;
        }
        if (n % PAGE != 0 || n < machine.loaded.size || n > RESIZE_LIMIT || machine.now.blockCount > 0) {
            return 1;
        }
        machine.now.setSize(n);
        return 0;
    }

    public int block(int n) {
        if (machine == null) {
            return NOT_POSSIBLE;
        }
        return n < 1 ? OUT_OF_BOUNDS : machine.now.addBlock(n);
    }

    public int free(int at) {
        if (machine == null) {
            return NOT_POSSIBLE;
        }
        int index = machine.now.blockIndexAt(at);
        return index < 0 ? NO_SUCH_PLACE : machine.now.removeBlock(index);
    }

    public int protect(int at, int n) {
        if (machine == null) {
            return NOT_POSSIBLE;
        }
        if (at < 0 || at > MEMORY_ROOM || n < 0 || n > MEMORY_ROOM) {
            return OUT_OF_BOUNDS;
        }
        machine.keepFrom = at;
        machine.keepTo = at + n;
        return 1;
    }

    public int restart() {
        if (machine == null) {
            return NOT_POSSIBLE;
        }
        machine.goBackTo(machine.loaded);
        return machine.now.size;
    }

    public int save() {
        if (machine == null) {
            return NOT_POSSIBLE;
        }
        machine.keepState();
        return machine.savedCount;
    }

    public int restore() {
        if (machine == null || machine.savedCount == 0) {
            return NOT_POSSIBLE;
        }
        machine.takeStateBack();
        return machine.now.size;
    }

    public int changed(int page) {
        if (machine == null) {
            return NOT_POSSIBLE;
        }
        if (page < 0 || page >= machine.now.size / PAGE) {
            return NO_SUCH_PLACE;
        }
        return machine.differsOnPage(page) ? 1 : 0;
    }

    public int hash(int at, int n) {
        if (machine == null) {
            return NOT_POSSIBLE;
        }
        if (n < 0) {
            return OUT_OF_BOUNDS;
        }
        if (!machine.now.holds(at, n)) {
            return NO_SUCH_PLACE;
        }
        int s = 0;
        for (int i = 0; i < n; i++) {
            s = 31 * s + machine.now.byteAt(at + i);
        }
        return s;
    }

    public int cell(int at) throws IndexOutOfBoundsException {
        if (machine == null) {
            return NOT_POSSIBLE;
        }
        if (!machine.now.holds(at, 1)) {
            throw new IndexOutOfBoundsException("no such place in memory");
        }
        return machine.now.byteAt(at);
    }

    private static boolean isWidth(int width) {
        return width == 1 || width == 2 || width == 4;
    }

    /** THE FILE: its bytes and what its HEAD is worth. */
    private static final class StoryFile {
        private final byte[] bytes = new byte[FILE_ROOM];
        private int length = 0;

        private boolean hasRoomFor(int count) {
            return count <= FILE_ROOM - length;
        }

        private boolean hasWholeWord(int at) {
            return at >= 0 && at % 4 == 0 && at <= length - 4;
        }

        private void appendByte(int value) {
            if (length >= 0 && length < FILE_ROOM) {
                bytes[length] = (byte) value;
                length++;
            }
        }

        private void appendWord(int value) {
            appendByte(value >>> 24);
            appendByte(value >>> 16);
            appendByte(value >>> 8);
            appendByte(value);
        }

        private void putByte(int at, int value) {
            if (at >= 0 && at < length && at < FILE_ROOM) {
                bytes[at] = (byte) value;
            }
        }

        private void putWord(int at, int value) {
            putByte(at, value >>> 24);
            putByte(at + 1, value >>> 16);
            putByte(at + 2, value >>> 8);
            putByte(at + 3, value);
        }

        // Answers 0 behind the end, because the sum fills the last WORD with 0.
        private int byteAt(int at) {
            return at >= 0 && at < length && at < FILE_ROOM ? bytes[at] & 0xFF : 0;
        }

        private long wordAt(int at) {
            int value = byteAt(at) << 24 | byteAt(at + 1) << 16 | byteAt(at + 2) << 8 | byteAt(at + 3);
            return value & WORD_MASK;
        }

        private long rightSum() {
            long total = 0;
            for (int at = 0; at < length; at += 4) {
                if (at != SUM_AT) {
                    total += wordAt(at);
                }
            }
            return total & WORD_MASK;
        }

        private int judge() {
            if (length < HEAD_BYTES) {
                return 1;
            }
            if (wordAt(MARK_AT) != MARK) {
                return 2;
            }
            long version = wordAt(VERSION_AT);
            if (version < LEAST_VERSION || version > GREATEST_VERSION) {
                return 3;
            }
            int judged = judgeMarks(wordAt(RAM_AT), wordAt(EXT_AT), wordAt(END_AT));
            return judged != 0 ? judged : judgeUse(wordAt(END_AT), wordAt(STACK_AT));
        }

        private int judgeMarks(long ram, long ext, long end) {
            if (ram % PAGE != 0 || ext % PAGE != 0 || end % PAGE != 0) {
                return 4;
            }
            if (ram < PAGE || ram > ext || ext > end) {
                return 5;
            }
            return ext != length ? 6 : 0;
        }

        private int judgeUse(long end, long stack) {
            if (stack == 0 || stack % PAGE != 0) {
                return 7;
            }
            if (!isBehindHead(wordAt(START_AT), end)) {
                return 8;
            }
            long table = wordAt(TABLE_AT);
            if (table != 0 && !isBehindHead(table, end)) {
                return 9;
            }
            return end > RESIZE_LIMIT || stack > STACK_LIMIT ? 10 : 0;
        }

        private static boolean isBehindHead(long place, long end) {
            return place >= HEAD_BYTES && place < end;
        }
    }

    /** MEMORY, M and BLOCKS: what is LOADED, what is now, and what is SAVED are all of this kind. */
    private static final class State {
        // All bytes from size on are 0 at all times, so that MEMORY that grows needs no clearing.
        private final byte[] bytes = new byte[MEMORY_ROOM];
        private int size = 0;

        // The BLOCKS, by rising place, so that the first gap is found in one pass and the last one ends last.
        private final int[] blockPlace = new int[MOST_BLOCKS];
        private final int[] blockLength = new int[MOST_BLOCKS];
        private int blockCount = 0;
        private int heapStart = 0;

        private boolean holds(int at, int count) {
            return at >= 0 && count >= 0 && count <= size && at <= size - count;
        }

        private int byteAt(int at) {
            return at >= 0 && at < size && at < MEMORY_ROOM ? bytes[at] & 0xFF : 0;
        }

        private void putByte(int at, int value) {
            if (at >= 0 && at < size && at < MEMORY_ROOM) {
                bytes[at] = (byte) value;
            }
        }

        private long valueAt(int width, int at) {
            long value = 0;
            for (int i = 0; i < width; i++) {
                value = value << 8 | byteAt(at + i);
            }
            return value;
        }

        private void putValue(int width, int at, int value) {
            int rest = value;
            for (int i = width - 1; i >= 0; i--) {
                putByte(at + i, rest);
                rest = rest >>> 8;
            }
        }

        private void setSize(int wanted) {
            if (wanted < 0 || wanted > MEMORY_ROOM) {
                return;
            }
            for (int at = wanted; at < size; at++) {
                bytes[at] = 0;
            }
            size = wanted;
        }

        private void takeFile(StoryFile source, int end) {
            setSize(0);
            setSize(end);
            for (int at = 0; at < source.length; at++) {
                putByte(at, source.byteAt(at));
            }
        }

        private void copyFrom(State other) {
            copyAround(other, 0, 0);
        }

        // Only what is MEMORY on both sides can stay: beyond either M there is no byte to keep.
        private void copyAround(State other, int keepFrom, int keepTo) {
            int to = Math.max(0, Math.min(keepTo, Math.min(size, other.size)));
            int from = Math.max(0, Math.min(keepFrom, to));
            System.arraycopy(other.bytes, 0, bytes, 0, from);
            System.arraycopy(other.bytes, to, bytes, to, MEMORY_ROOM - to);
            size = other.size;
            System.arraycopy(other.blockPlace, 0, blockPlace, 0, MOST_BLOCKS);
            System.arraycopy(other.blockLength, 0, blockLength, 0, MOST_BLOCKS);
            blockCount = other.blockCount;
            heapStart = other.heapStart;
        }

        private int blockEnd(int index) {
            return blockPlace[index] + blockLength[index];
        }

        private int addBlock(int count) {
            if (blockCount >= MOST_BLOCKS) {
                return 0;
            }
            int start = blockCount == 0 ? size : heapStart;
            int index = gapFor(count, start);
            int place = index == 0 ? start : blockEnd(index - 1);
            if (count > MEMORY_ROOM - place) {
                return 0;
            }
            insertBlock(index, place, count);
            heapStart = start;
            setSize(Math.max(size, roundUp(blockEnd(blockCount - 1))));
            return place;
        }

        // The index of the BLOCK ahead of which there is room; blockCount, if only behind them all.
        private int gapFor(int count, int start) {
            int place = start;
            for (int i = 0; i < blockCount; i++) {
                if (blockPlace[i] - place >= count) {
                    return i;
                }
                place = blockEnd(i);
            }
            return blockCount;
        }

        private void insertBlock(int index, int place, int count) {
            for (int i = blockCount; i > index; i--) {
                blockPlace[i] = blockPlace[i - 1];
                blockLength[i] = blockLength[i - 1];
            }
            blockPlace[index] = place;
            blockLength[index] = count;
            blockCount++;
        }

        private int blockIndexAt(int at) {
            for (int i = 0; i < blockCount; i++) {
                if (blockPlace[i] == at) {
                    return i;
                }
            }
            return -1;
        }

        private int removeBlock(int index) {
            int count = blockLength[index];
            blockCount--;
            for (int i = index; i < blockCount; i++) {
                blockPlace[i] = blockPlace[i + 1];
                blockLength[i] = blockLength[i + 1];
            }
            if (blockCount == 0) {
                setSize(heapStart);
                heapStart = 0;
            }
            return count;
        }

        private static int roundUp(int place) {
            return (place + PAGE - 1) / PAGE * PAGE;
        }
    }

    /** THE MACHINE: what was LOADED, what is now, and what it can go back to. */
    private static final class Machine {
        private final State loaded = new State();
        private final State now = new State();

        // The two change places at each save and restore, so that no STATE is ever made anew.
        private State latest = new State();
        private State elder = new State();
        private int savedCount = 0;

        private int faultKind = 0;
        private int faultPlace = 0;
        private int keepFrom = 0;
        private int keepTo = 0;
        private boolean sumWasRight = false;

        private void begin(StoryFile source) {
            loaded.takeFile(source, (int) source.wordAt(END_AT));
            now.copyFrom(loaded);
            sumWasRight = source.rightSum() == source.wordAt(SUM_AT);
            savedCount = 0;
            faultKind = 0;
            faultPlace = 0;
            keepFrom = 0;
            keepTo = 0;
        }

        private long tell(int what) {
            switch (what) {
                case 9:
                    return now.size;
                case 10:
                    return now.heapStart;
                case 11:
                    return now.blockCount;
                case 12:
                    return savedCount;
                case 13:
                    return faultKind;
                case 14:
                    return faultPlace;
                case 15:
                    return sumWasRight ? 1 : 0;
                default:
                    return NOTHING;
            }
        }

        private void noteFault(int kind, int place) {
            faultKind = kind;
            faultPlace = place;
        }

        private int writeFault(int width, int at) {
            if (at < loaded.valueAt(4, RAM_AT)) {
                return BELOW_RAM_FAULT;
            }
            return now.holds(at, width) ? 0 : WRITE_FAULT;
        }

        private void goBackTo(State state) {
            now.copyAround(state, keepFrom, keepTo);
        }

        private void keepState() {
            swapStates();
            latest.copyFrom(now);
            savedCount = Math.min(MOST_STATES, savedCount + 1);
        }

        private void takeStateBack() {
            goBackTo(latest);
            swapStates();
            savedCount--;
        }

        private void swapStates() {
            State other = latest;
            latest = elder;
            elder = other;
        }

        private boolean differsOnPage(int page) {
            int first = page * PAGE;
            for (int i = 0; i < PAGE; i++) {
                if (now.byteAt(first + i) != loaded.byteAt(first + i)) {
                    return true;
                }
            }
            return false;
        }
    }
}
