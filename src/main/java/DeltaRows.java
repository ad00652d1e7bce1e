/**
 * Rows of 64-bit numbers as bytes: the first one, then differences by blocks, each less the least
 * one of its block, in widths of their own for every sixteen; any bytes are read, or refused with
 * the first fault and its place.
 */
public final class DeltaRows {
    public static final int NONE = -1;

    private static final int ROW_LIMIT = 2000;
    private static final int BYTE_LIMIT = 20000;
    private static final int BLOCK_LONGS = 64;
    private static final int PART_LONGS = 16;
    private static final int PARTS = 4;
    private static final int BLOCK_LIMIT = (ROW_LIMIT - 1 + BLOCK_LONGS - 1) / BLOCK_LONGS;
    private static final int WIDTH_LIMIT = 64;
    private static final int VARINT_LIMIT = 10;
    private static final int BYTE_BITS = 8;
    private static final int WORD_BITS = 64;

    private static final int FAULT_NONE = 0;
    private static final int FAULT_CUT = 1;
    private static final int FAULT_VARINT = 2;
    private static final int FAULT_MANY = 4;
    private static final int FAULT_BITS = 5;
    private static final int FAULT_MORE = 6;

    private final long[] row;
    private int rowCount;
    private final ByteRow bytes;
    private final Scan scan;
    private Layout layout;
    // A scan fills this one, so that a fault leaves the layout that calls still ask for untouched.
    private Layout spareLayout;

    public DeltaRows() {
        row = new long[ROW_LIMIT];
        rowCount = 0;
        bytes = new ByteRow();
        scan = new Scan(bytes);
        layout = new Layout();
        spareLayout = new Layout();
    }

    public boolean put(long v) {
        if (rowCount >= ROW_LIMIT) {
            return false;
        }
        row[rowCount] = v;
        rowCount++;
        return true;
    }

    public void clear() {
        rowCount = 0;
    }

    public int count() {
        return rowCount;
    }

    public long get(int i) {
        return i >= 0 && i < rowCount ? row[i] : 0;
    }

    public int write() {
        // No code has more than 16460 bytes (2 + 10, 31 blocks of 526, one of 142): all have room.
        bytes.shorten(0);
        bytes.addVarint(rowCount);
        if (rowCount > 0) {
            bytes.addVarint(zigzag(row[0]));
        }
        layout.blockCount = blocksFor(rowCount);
        for (int block = 0; block < layout.blockCount; block++) {
            writeBlock(block);
        }
        return bytes.used;
    }

    public int read() {
        scan.lookThrough(spareLayout);
        if (scan.fault == FAULT_NONE) {
            Layout found = spareLayout;
            spareLayout = layout;
            layout = found;
            takeRow();
        }
        return scan.fault;
    }

    public int place() {
        return scan.faultPlace;
    }

    public int size() {
        return bytes.used;
    }

    public int byteAt(int k) {
        return bytes.has(k) ? bytes.byteIn(k) : NONE;
    }

    public boolean setByte(int k, int v) {
        if (!bytes.has(k)) {
            return false;
        }
        bytes.change(k, v);
        return true;
    }

    public boolean append(int v) {
        return bytes.add(v);
    }

    public boolean cut(int n) {
        if (n < 0 || n > bytes.used) {
            return false;
        }
        bytes.shorten(n);
        return true;
    }

    public int blocks() {
        return layout.blockCount;
    }

    public long least(int block) {
        return layout.hasBlock(block) ? layout.leasts[block] : 0;
    }

    public int width(int block, int part) {
        return layout.hasPart(block, part) ? layout.widths[block * PARTS + part] : NONE;
    }

    public int start(int block, int part) {
        return layout.hasPart(block, part) ? layout.starts[block * PARTS + part] : NONE;
    }

    private void writeBlock(int block) {
        long least = leastDifference(block);
        layout.leasts[block] = least;
        bytes.addVarint(zigzag(least));
        for (int part = 0; part < PARTS; part++) {
            int width = neededWidth(block, part);
            layout.widths[block * PARTS + part] = width;
            bytes.add(width);
        }
        for (int part = 0; part < PARTS; part++) {
            layout.starts[block * PARTS + part] = bytes.used;
            writePart(block, part);
        }
    }

    private long leastDifference(int block) {
        int from = partEdge(block, 0, rowCount);
        int end = partEdge(block, PARTS, rowCount);
        long least = row[from] - row[from - 1];
        for (int i = from + 1; i < end; i++) {
            least = Math.min(least, row[i] - row[i - 1]);
        }
        return least;
    }

    private int neededWidth(int block, int part) {
        long least = layout.leasts[block];
        int end = partEdge(block, part + 1, rowCount);
        long anyBits = 0;
        for (int i = partEdge(block, part, rowCount); i < end; i++) {
            anyBits |= row[i] - row[i - 1] - least;
        }
        return WORD_BITS - Long.numberOfLeadingZeros(anyBits);
    }

    private void writePart(int block, int part) {
        long least = layout.leasts[block];
        int width = layout.widths[block * PARTS + part];
        int from = partEdge(block, part, rowCount);
        int end = partEdge(block, part + 1, rowCount);
        int bit = bytes.used * BYTE_BITS;
        // All sixteen are set, also those that are not there: the bytes may hold old bits.
        for (int i = from; i < from + PART_LONGS; i++) {
            bytes.setBits(bit, width, i < end ? row[i] - row[i - 1] - least : 0);
            bit += width;
        }
        bytes.used += partBytes(width);
    }

    private void takeRow() {
        rowCount = scan.total;
        if (rowCount > 0) {
            row[0] = scan.first;
        }
        for (int block = 0; block < layout.blockCount; block++) {
            for (int part = 0; part < PARTS; part++) {
                takePart(block, part);
            }
        }
    }

    private void takePart(int block, int part) {
        long least = layout.leasts[block];
        int width = layout.widths[block * PARTS + part];
        int bit = layout.starts[block * PARTS + part] * BYTE_BITS;
        int end = partEdge(block, part + 1, rowCount);
        for (int i = partEdge(block, part, rowCount); i < end; i++) {
            row[i] = row[i - 1] + least + bytes.bitsIn(bit, width);
            bit += width;
        }
    }

    private static int blocksFor(int total) {
        return total > 1 ? (total - 1 + BLOCK_LONGS - 1) / BLOCK_LONGS : 0;
    }

    /**
     * Where in a row of so many longs a part's differences begin; they end where the next part's
     * begin, and part PARTS is the first one of the next block.
     */
    private static int partEdge(int block, int part, int total) {
        return Math.min(1 + block * BLOCK_LONGS + part * PART_LONGS, total);
    }

    private static int partBytes(int width) {
        return width * PART_LONGS / BYTE_BITS;
    }

    private static long zigzag(long v) {
        return (v << 1) ^ (v >> 63);
    }

    private static long unzigzag(long z) {
        return (z >>> 1) ^ -(z & 1);
    }

    /** The bytes, eight in a long: bits of a part can be had at once, and an object stays small. */
    private static final class ByteRow {
        private final long[] words;
        int used;

        ByteRow() {
            words = new long[BYTE_LIMIT * BYTE_BITS / WORD_BITS];
            used = 0;
        }

        boolean has(int k) {
            return k >= 0 && k < used;
        }

        int byteIn(int k) {
            return (int) bitsIn(k * BYTE_BITS, BYTE_BITS);
        }

        void change(int k, int v) {
            setBits(k * BYTE_BITS, BYTE_BITS, v);
        }

        boolean add(int v) {
            if (used >= BYTE_LIMIT) {
                return false;
            }
            change(used, v);
            used++;
            return true;
        }

        void addVarint(long v) {
            long rest = v;
            for (int i = 1; i < VARINT_LIMIT && (rest & ~127L) != 0; i++) {
                add((int) (rest & 127) | 128);
                rest >>>= 7;
            }
            add((int) rest);
        }

        void shorten(int n) {
            used = n;
        }

        long bitsIn(int bit, int width) {
            if (!hasRoom(bit, width)) {
                return 0;
            }
            int word = bit / WORD_BITS;
            int shift = bit % WORD_BITS;
            long bits = words[word] >>> shift;
            if (shift + width > WORD_BITS) {
                bits |= words[word + 1] << (WORD_BITS - shift);
            }
            return bits & maskOf(width);
        }

        void setBits(int bit, int width, long v) {
            if (!hasRoom(bit, width)) {
                return;
            }
            int word = bit / WORD_BITS;
            int shift = bit % WORD_BITS;
            long mask = maskOf(width);
            long bits = v & mask;
            words[word] = words[word] & ~(mask << shift) | bits << shift;
            if (shift + width > WORD_BITS) {
                int done = WORD_BITS - shift;
                words[word + 1] = words[word + 1] & ~(mask >>> done) | bits >>> done;
            }
        }

        private boolean hasRoom(int bit, int width) {
            return bit >= 0 && width > 0 && width <= WIDTH_LIMIT
                    && bit <= BYTE_LIMIT * BYTE_BITS - width;
        }

        private static long maskOf(int width) {
            return -1L >>> (WORD_BITS - width);
        }
    }

    /** What the blocks of a code are, and where their parts begin. */
    private static final class Layout {
        int blockCount;
        final long[] leasts;
        final int[] widths;
        final int[] starts;

        Layout() {
            blockCount = 0;
            leasts = new long[BLOCK_LIMIT];
            widths = new int[BLOCK_LIMIT * PARTS];
            starts = new int[BLOCK_LIMIT * PARTS];
        }

        boolean hasBlock(int block) {
            return block >= 0 && block < blockCount;
        }

        boolean hasPart(int block, int part) {
            return hasBlock(block) && part >= 0 && part < PARTS;
        }
    }

    /** Looks through bytes for the first fault, and finds the layout without touching the row. */
    private static final class Scan {
        private final ByteRow bytes;
        private int at;
        int fault;
        int faultPlace;
        int total;
        long first;

        Scan(ByteRow bytes) {
            this.bytes = bytes;
            at = 0;
            fault = FAULT_NONE;
            faultPlace = NONE;
            total = 0;
            first = 0;
        }

        void lookThrough(Layout found) {
            at = 0;
            fault = FAULT_NONE;
            faultPlace = NONE;
            lookAtHead();
            found.blockCount = blocksFor(total);
            for (int block = 0; block < found.blockCount && isFaultless(); block++) {
                lookAtBlock(found, block);
            }
            if (isFaultless() && at < bytes.used) {
                refuse(FAULT_MORE, at);
            }
        }

        private void lookAtHead() {
            total = 0;
            first = 0;
            long told = nextVarint();
            if (!isFaultless()) {
                return;
            }
            // A number without a sign that is 2 to the 63 or more looks as if below 0.
            if (told < 0 || told > ROW_LIMIT) {
                refuse(FAULT_MANY, 0);
                return;
            }
            total = (int) told;
            if (total > 0) {
                first = unzigzag(nextVarint());
            }
        }

        private void lookAtBlock(Layout found, int block) {
            found.leasts[block] = unzigzag(nextVarint());
            for (int part = 0; part < PARTS && isFaultless(); part++) {
                found.widths[block * PARTS + part] = nextWidth(longsOf(block, part));
            }
            for (int part = 0; part < PARTS && isFaultless(); part++) {
                found.starts[block * PARTS + part] = at;
                passPart(found.widths[block * PARTS + part], longsOf(block, part));
            }
        }

        private int longsOf(int block, int part) {
            return partEdge(block, part + 1, total) - partEdge(block, part, total);
        }

        private int nextWidth(int longs) {
            int begin = at;
            int width = nextByte();
            if (width > WIDTH_LIMIT || width != 0 && longs == 0) {
                refuse(FAULT_BITS, begin);
            }
            return width;
        }

        private void passPart(int width, int longs) {
            if (partBytes(width) > bytes.used - at) {
                refuse(FAULT_CUT, bytes.used);
                return;
            }
            for (int i = longs; i < PART_LONGS; i++) {
                if (bytes.bitsIn(at * BYTE_BITS + i * width, width) != 0) {
                    refuse(FAULT_BITS, at);
                    return;
                }
            }
            at += partBytes(width);
        }

        private long nextVarint() {
            int begin = at;
            long v = 0;
            for (int i = 0; i < VARINT_LIMIT; i++) {
                int next = nextByte();
                if (!isFaultless()) {
                    return 0;
                }
                boolean isTooLarge = i == VARINT_LIMIT - 1 && next > 1;
                boolean isEmptyLast = i > 0 && next == 0;
                if (isTooLarge || isEmptyLast) {
                    break;
                }
                v |= (next & 127L) << (7 * i);
                if (next < 128) {
                    return v;
                }
            }
            refuse(FAULT_VARINT, begin);
            return 0;
        }

        private int nextByte() {
            if (!bytes.has(at)) {
                refuse(FAULT_CUT, bytes.used);
                return 0;
            }
            int next = bytes.byteIn(at);
            at++;
            return next;
        }

        private boolean isFaultless() {
            return fault == FAULT_NONE;
        }

        private void refuse(int kind, int where) {
            fault = kind;
            faultPlace = where;
        }
    }
}
