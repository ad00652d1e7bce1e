/** For every promise: ordinary inputs, the edges that the document names, and wrong inputs. */
public final class PromiseTest {
    private static final int CUT = 1;
    private static final int VARINT = 2;
    private static final int MANY = 4;
    private static final int BITS = 5;
    private static final int MORE = 6;

    private static int wrong = 0;

    private static void due(String what, long got, long want) {
        if (got != want) {
            wrong++;
            System.out.println(what + " answered " + got + ", due is " + want);
        }
    }

    private static void due(String what, boolean got, boolean want) {
        due(what, got ? 1 : 0, want ? 1 : 0);
    }

    private static DeltaRows withRow(long... longs) {
        DeltaRows x = new DeltaRows();
        for (long v : longs) {
            due("put(" + v + ")", x.put(v), true);
        }
        return x;
    }

    private static void refill(DeltaRows x, int... bytes) {
        x.cut(0);
        for (int b : bytes) {
            due("append(" + b + ")", x.append(b), true);
        }
    }

    private static DeltaRows withBytes(int... bytes) {
        DeltaRows x = new DeltaRows();
        refill(x, bytes);
        return x;
    }

    private static void dueBytes(String what, DeltaRows x, int... want) {
        due(what + ": size()", x.size(), want.length);
        for (int k = 0; k < want.length; k++) {
            due(what + ": byteAt(" + k + ")", x.byteAt(k), want[k]);
        }
    }

    private static void dueRow(String what, DeltaRows x, long... want) {
        due(what + ": count()", x.count(), want.length);
        for (int i = 0; i < want.length; i++) {
            due(what + ": get(" + i + ")", x.get(i), want[i]);
        }
    }

    /** Reads the bytes over a row that must stay, and checks the fault and its place. */
    private static void dueFault(String what, int fault, int place, int... bytes) {
        DeltaRows x = withRow(7, -8);
        int written = x.write();
        refill(x, bytes);
        due(what + ": read()", x.read(), fault);
        due(what + ": place()", x.place(), place);
        dueRow(what, x, 7, -8);
        dueBytes(what, x, bytes);
        due(what + ": blocks()", x.blocks(), 1);
        due(what + ": least(0)", x.least(0), -15);
        due(what + ": start(0, 0)", x.start(0, 0), written);
    }

    private static int[] joined(int[] head, int... tail) {
        int[] all = java.util.Arrays.copyOf(head, head.length + tail.length);
        System.arraycopy(tail, 0, all, head.length, tail.length);
        return all;
    }

    /** The code of 2000 longs 3, 4, 5 ..: 31 whole blocks and one of 15 differences. */
    private static int[] codeOf2000() {
        int[] bytes = new int[3 + 32 * 5];
        bytes[0] = 208;
        bytes[1] = 15;
        bytes[2] = 6;
        for (int block = 0; block < 32; block++) {
            bytes[3 + block * 5] = 2;
        }
        return bytes;
    }

    private static void newObject() {
        DeltaRows x = new DeltaRows();
        due("new: count()", x.count(), 0);
        due("new: size()", x.size(), 0);
        due("new: place()", x.place(), DeltaRows.NONE);
        due("new: blocks()", x.blocks(), 0);
        due("new: get(0)", x.get(0), 0);
        due("new: byteAt(0)", x.byteAt(0), DeltaRows.NONE);
        due("new: least(0)", x.least(0), 0);
        due("new: width(0, 0)", x.width(0, 0), DeltaRows.NONE);
        due("new: start(0, 0)", x.start(0, 0), DeltaRows.NONE);
        DeltaRows other = new DeltaRows();
        x.put(1);
        x.append(1);
        due("new: another one's count()", other.count(), 0);
        due("new: another one's size()", other.size(), 0);
        due("NONE", DeltaRows.NONE, -1);
    }

    private static void put() {
        dueRow("put", withRow(5, -5, Long.MIN_VALUE, Long.MAX_VALUE, 0),
                5, -5, Long.MIN_VALUE, Long.MAX_VALUE, 0);
        DeltaRows x = withBytes(codeOf2000());
        due("put: read() of 2000", x.read(), 0);
        due("put: onto 2000", x.put(1), false);
        due("put: count()", x.count(), 2000);
        due("put: get(1999)", x.get(1999), 2002);
        due("put: get(2000)", x.get(2000), 0);
        due("put: size()", x.size(), 163);
        x.clear();
        due("put: after clear()", x.put(9), true);
        dueRow("put after clear", x, 9);

        int[] oneLess = codeOf2000();
        oneLess[0] = 207;
        refill(x, oneLess);
        due("put: read() of 1999", x.read(), 0);
        due("put: the 2000th", x.put(-4), true);
        due("put: the 2001st", x.put(-5), false);
        due("put: get(1998)", x.get(1998), 2001);
        due("put: get(1999)", x.get(1999), -4);
    }

    private static void clear() {
        DeltaRows x = withRow(1, 2, 3);
        int written = x.write();
        x.clear();
        due("clear: count()", x.count(), 0);
        due("clear: get(0)", x.get(0), 0);
        due("clear: size() stays", x.size(), written);
        due("clear: blocks() stays", x.blocks(), 1);
        x.clear();
        due("clear twice: count()", x.count(), 0);
        x.put(6);
        dueRow("clear, then put", x, 6);
    }

    private static void count() {
        DeltaRows x = new DeltaRows();
        for (int i = 0; i < 200; i++) {
            due("count()", x.count(), i);
            x.put(i);
        }
        due("count()", x.count(), 200);
        x.append(0);
        due("count() after append", x.count(), 200);
        x.read();
        due("count() after read of none", x.count(), 0);
    }

    private static void get() {
        DeltaRows x = withRow(11, 12);
        due("get(-1)", x.get(-1), 0);
        due("get(0)", x.get(0), 11);
        due("get(1)", x.get(1), 12);
        due("get(2)", x.get(2), 0);
        due("get(1999)", x.get(1999), 0);
        due("get(2000)", x.get(2000), 0);
        due("get(MAX)", x.get(Integer.MAX_VALUE), 0);
        due("get(MIN)", x.get(Integer.MIN_VALUE), 0);
        x.clear();
        x.put(13);
        due("get(1) of what was", x.get(1), 0);
    }

    private static void write() {
        DeltaRows x = new DeltaRows();
        due("write() of none", x.write(), 1);
        dueBytes("write of none", x, 0);
        x = withRow(-1);
        due("write() of one", x.write(), 2);
        dueBytes("write of one", x, 1, 1);
        dueRow("write: the row stays", x, -1);
        x = withRow(Long.MIN_VALUE);
        due("write() of MIN", x.write(), 11);
        dueBytes("write of MIN", x, 1, 255, 255, 255, 255, 255, 255, 255, 255, 255, 1);
        x = withRow(Long.MAX_VALUE);
        x.write();
        dueBytes("write of MAX", x, 1, 254, 255, 255, 255, 255, 255, 255, 255, 255, 1);
        x = withRow(64);
        x.write();
        dueBytes("write of 64", x, 1, 128, 1);
        x = withRow(63, 63);
        x.write();
        dueBytes("write of two alike", x, 2, 126, 0, 0, 0, 0, 0);
        // Differences -3, 4, -2: 0, 7, 1 above the least one, three bits each.
        x = withRow(10, 7, 11, 9);
        due("write() of four", x.write(), 13);
        dueBytes("write of four", x, 4, 20, 5, 3, 0, 0, 0, 0x78, 0, 0, 0, 0, 0);
        writesOverOldBytes();
        writesBlocks();
        writesWraps();
    }

    private static void writesOverOldBytes() {
        DeltaRows x = new DeltaRows();
        for (int k = 0; k < 100; k++) {
            x.append(255);
        }
        for (long v : new long[] {10, 7, 11, 9}) {
            x.put(v);
        }
        due("write() over bytes", x.write(), 13);
        dueBytes("write over bytes", x, 4, 20, 5, 3, 0, 0, 0, 0x78, 0, 0, 0, 0, 0);
        x.clear();
        x.put(2);
        due("write() of less", x.write(), 2);
        dueBytes("write of less", x, 1, 4);
    }

    private static void writesBlocks() {
        DeltaRows x = new DeltaRows();
        x.put(0);
        long v = 0;
        // 64 differences of a first block: the i-th one is 1 only at 20 and 63, else 0.
        for (int i = 0; i < 64; i++) {
            v += i == 20 || i == 63 ? 1 : 0;
            x.put(v);
        }
        due("write() of 65", x.write(), 11);
        dueBytes("write of 65", x, 65, 0, 0, 0, 1, 0, 1, 16, 0, 0, 128);
        x.put(v + 100);
        due("write() of 66", x.write(), 17);
        dueBytes("write of 66", x, 66, 0, 0, 0, 1, 0, 1, 16, 0, 0, 128, 200, 1, 0, 0, 0, 0);
    }

    private static void writesWraps() {
        // The differences are 1 and -2 modulo 2 to the 64.
        DeltaRows x = withRow(Long.MAX_VALUE, Long.MIN_VALUE, Long.MAX_VALUE - 1);
        due("write() of wraps", x.write(), 20);
        due("write of wraps: least(0)", x.least(0), -2);
        due("write of wraps: width(0, 0)", x.width(0, 0), 2);
        due("write of wraps: byteAt(16)", x.byteAt(16), 3);
        x.clear();
        due("write of wraps: read()", x.read(), 0);
        dueRow("write of wraps", x, Long.MAX_VALUE, Long.MIN_VALUE, Long.MAX_VALUE - 1);
    }

    private static void readWell() {
        DeltaRows x = withRow(1, 2, 3);
        refill(x, 0);
        due("read() of none", x.read(), 0);
        dueRow("read of none", x);
        refill(x, 1, 255, 255, 255, 255, 255, 255, 255, 255, 255, 1);
        due("read() of MIN", x.read(), 0);
        dueRow("read of MIN", x, Long.MIN_VALUE);
        dueBytes("read leaves bytes", x, 1, 255, 255, 255, 255, 255, 255, 255, 255, 255, 1);
        refill(x, 4, 20, 5, 3, 0, 0, 0, 0x78, 0, 0, 0, 0, 0);
        due("read() of four", x.read(), 0);
        dueRow("read of four", x, 10, 7, 11, 9);
        // The least one is told as -4, and the width as 4: more than they must be.
        refill(x, 3, 20, 7, 4, 0, 0, 0, 0x81, 0, 0, 0, 0, 0, 0, 0);
        due("read() of a wide one", x.read(), 0);
        dueRow("read of a wide one", x, 10, 7, 11);
        due("read of a wide one: least(0)", x.least(0), -4);
        due("read of a wide one: width(0, 0)", x.width(0, 0), 4);
        due("read of a wide one: write()", x.write(), 13);
        due("read of a wide one: least(0) written", x.least(0), -3);
        due("read of a wide one: width(0, 0) written", x.width(0, 0), 3);
        // The least one told is MAX; with 1 more, a difference goes round to MIN.
        refill(x, 2, 0, 254, 255, 255, 255, 255, 255, 255, 255, 255, 1, 1, 0, 0, 0, 1, 0);
        due("read() of one that goes round", x.read(), 0);
        dueRow("read of one that goes round", x, 0, Long.MIN_VALUE);
        due("read of one that goes round: least(0)", x.least(0), Long.MAX_VALUE);
        refill(x, codeOf2000());
        due("read() of 2000", x.read(), 0);
        due("read of 2000: count()", x.count(), 2000);
        due("read of 2000: get(1999)", x.get(1999), 2002);
    }

    private static void readFaults() {
        dueFault("no bytes", CUT, 0);
        dueFault("half a count", CUT, 1, 128);
        dueFault("no first one", CUT, 1, 1);
        dueFault("half a first one", CUT, 2, 1, 128);
        dueFault("no least one", CUT, 2, 2, 0);
        dueFault("no widths", CUT, 3, 2, 0, 0);
        dueFault("three widths", CUT, 6, 2, 0, 0, 0, 0, 0);
        dueFault("no part", CUT, 7, 2, 0, 0, 1, 0, 0, 0);
        dueFault("half a part", CUT, 8, 2, 0, 0, 1, 0, 0, 0, 1);
        dueFault("half a part with bits left", CUT, 8, 2, 0, 0, 1, 0, 0, 0, 255);

        dueFault("a count with 0 last", VARINT, 0, 128, 0);
        dueFault("a first one with 0 last", VARINT, 1, 1, 129, 0);
        dueFault("a first one with 0 as the tenth", VARINT, 1,
                1, 128, 128, 128, 128, 128, 128, 128, 128, 128, 0);
        dueFault("a first one with 2 as the tenth", VARINT, 1,
                1, 128, 128, 128, 128, 128, 128, 128, 128, 128, 2);
        dueFault("a first one with 128 as the tenth", VARINT, 1,
                1, 128, 128, 128, 128, 128, 128, 128, 128, 128, 128);
        dueFault("a first one of nine bytes, cut", CUT, 10,
                1, 128, 128, 128, 128, 128, 128, 128, 128, 128);
        dueFault("a least one with 0 last", VARINT, 2, 2, 0, 255, 128, 0, 70);

        dueFault("2001", MANY, 0, 209, 15);
        dueFault("2001 and more", MANY, 0, 209, 15, 128, 0);
        dueFault("2 to the 32", MANY, 0, 128, 128, 128, 128, 16);
        dueFault("2 to the 63", MANY, 0, 128, 128, 128, 128, 128, 128, 128, 128, 128, 1);
        dueFault("2000 alone", CUT, 2, 208, 15);

        dueFault("a width of 65", BITS, 3, 2, 0, 0, 65);
        dueFault("a width of 255", BITS, 3, 2, 0, 0, 255, 0, 0, 0);
        dueFault("a width without differences", BITS, 4, 2, 0, 0, 1, 1);
        dueFault("the last width without differences", BITS, 6, 2, 0, 0, 65 - 1, 0, 0, 1);
        dueFault("a width before the parts", BITS, 5, 18, 0, 0, 1, 1, 2);
        dueFault("the lowest bit that is left", BITS, 7, 2, 0, 0, 3, 0, 0, 0, 8, 0, 0, 0, 0, 0);
        dueFault("the highest bit that is left", BITS, 7, 2, 0, 0, 3, 0, 0, 0, 0, 0, 0, 0, 0, 128);
        dueFault("a bit left of the second part", BITS, 9,
                18, 0, 0, 1, 1, 0, 0, 255, 255, 3, 0);
        dueFault("bits left before more", BITS, 7, 2, 0, 0, 1, 0, 0, 0, 2, 0, 0);

        dueFault("more than none", MORE, 1, 0, 0);
        dueFault("more than one", MORE, 2, 1, 5, 128);
        dueFault("more than two", MORE, 7, 2, 5, 0, 0, 0, 0, 0, 0);
        dueFault("more than a part", MORE, 9, 2, 0, 0, 1, 0, 0, 0, 1, 0, 255, 255);
        dueFault("more than 2000", MORE, 163, joined(codeOf2000(), 0));
        int[] late = codeOf2000();
        late[160] = 1;
        dueFault("a width in the last block of 2000, before more", BITS, 160, joined(late, 0));
    }

    private static void place() {
        DeltaRows x = withRow(1);
        x.write();
        due("place() before a read", x.place(), DeltaRows.NONE);
        due("place: read()", x.read(), 0);
        due("place() without a fault", x.place(), DeltaRows.NONE);
        x.append(0);
        due("place: read() of more", x.read(), MORE);
        due("place() of more", x.place(), 2);
        x.write();
        x.cut(1);
        due("place() stays until a read", x.place(), 2);
        due("place: read() of a cut one", x.read(), CUT);
        due("place() of a cut one", x.place(), 1);
        x.append(8);
        due("place: read() of a mended one", x.read(), 0);
        due("place() of a mended one", x.place(), DeltaRows.NONE);
    }

    private static void size() {
        DeltaRows x = new DeltaRows();
        for (int k = 0; k < 200; k++) {
            due("size()", x.size(), k);
            x.append(k);
        }
        due("size()", x.size(), 200);
        x.cut(50);
        due("size() after cut", x.size(), 50);
        x.write();
        due("size() after write", x.size(), 1);
        x.read();
        due("size() after read", x.size(), 1);
        x.clear();
        due("size() after clear", x.size(), 1);
    }

    private static void byteAt() {
        DeltaRows x = withBytes(0, 1, 127, 128, 255, 9, 8, 7, 6, 5);
        dueBytes("byteAt", x, 0, 1, 127, 128, 255, 9, 8, 7, 6, 5);
        due("byteAt(-1)", x.byteAt(-1), DeltaRows.NONE);
        due("byteAt(10)", x.byteAt(10), DeltaRows.NONE);
        due("byteAt(20000)", x.byteAt(20000), DeltaRows.NONE);
        due("byteAt(MAX)", x.byteAt(Integer.MAX_VALUE), DeltaRows.NONE);
        due("byteAt(MIN)", x.byteAt(Integer.MIN_VALUE), DeltaRows.NONE);
        due("byteAt(2 to the 29)", x.byteAt(1 << 29), DeltaRows.NONE);
        x.cut(3);
        due("byteAt(3) after cut", x.byteAt(3), DeltaRows.NONE);
    }

    private static void setByte() {
        DeltaRows x = withBytes(1, 2, 3, 4, 5, 6, 7, 8, 9, 10);
        due("setByte(0, 255)", x.setByte(0, 255), true);
        due("setByte(7, 0)", x.setByte(7, 0), true);
        due("setByte(8, -1)", x.setByte(8, -1), true);
        due("setByte(9, 256 + 77)", x.setByte(9, 256 + 77), true);
        due("setByte(4, MIN)", x.setByte(4, Integer.MIN_VALUE), true);
        due("setByte(10, 1)", x.setByte(10, 1), false);
        due("setByte(-1, 1)", x.setByte(-1, 1), false);
        due("setByte(MAX, 1)", x.setByte(Integer.MAX_VALUE, 1), false);
        due("setByte(MIN, 1)", x.setByte(Integer.MIN_VALUE, 1), false);
        due("setByte(2 to the 29, 1)", x.setByte(1 << 29, 1), false);
        dueBytes("setByte", x, 255, 2, 3, 4, 0, 6, 7, 0, 255, 77);
    }

    private static void append() {
        DeltaRows x = withBytes(0, 255, 256, -1, 511, Integer.MIN_VALUE, 1000);
        dueBytes("append", x, 0, 255, 0, 255, 255, 0, 1000 - 768);
        x.cut(1);
        x.append(4);
        dueBytes("append after cut", x, 0, 4);
        // 20000 bytes take more than the 512 calls that are promised; the limit holds all the same.
        while (x.size() < 19999) {
            due("append below 20000", x.append(x.size()), true);
        }
        due("append of the 20000th", x.append(41), true);
        due("append onto 20000", x.append(42), false);
        due("size() of 20000", x.size(), 20000);
        due("byteAt(19999)", x.byteAt(19999), 41);
        due("byteAt(20000)", x.byteAt(20000), DeltaRows.NONE);
        due("setByte(20000, 1)", x.setByte(20000, 1), false);
        due("cut(19999)", x.cut(19999), true);
        due("append after cut", x.append(43), true);
        due("byteAt(19999)", x.byteAt(19999), 43);
    }

    private static void cut() {
        DeltaRows x = withBytes(1, 2, 3, 4, 5);
        due("cut(6)", x.cut(6), false);
        due("cut(-1)", x.cut(-1), false);
        due("cut(MAX)", x.cut(Integer.MAX_VALUE), false);
        due("cut(MIN)", x.cut(Integer.MIN_VALUE), false);
        dueBytes("cut refused", x, 1, 2, 3, 4, 5);
        due("cut(5)", x.cut(5), true);
        dueBytes("cut to all", x, 1, 2, 3, 4, 5);
        due("cut(3)", x.cut(3), true);
        dueBytes("cut to three", x, 1, 2, 3);
        due("cut(4)", x.cut(4), false);
        due("cut(0)", x.cut(0), true);
        dueBytes("cut to none", x);
        due("cut(0) of none", x.cut(0), true);
        due("cut(1) of none", x.cut(1), false);
    }

    private static void blocks() {
        DeltaRows x = new DeltaRows();
        int longs = 0;
        for (int[] pair : new int[][] {{1, 0}, {2, 1}, {65, 1}, {66, 2}, {129, 2}, {130, 3}, {300, 5}}) {
            for (; longs < pair[0]; longs++) {
                x.put(longs * 3);
            }
            x.write();
            due("blocks() of " + longs, x.blocks(), pair[1]);
        }
        x.clear();
        due("blocks() after clear", x.blocks(), 5);
        x.write();
        due("blocks() of none", x.blocks(), 0);
        refill(x, codeOf2000());
        due("blocks() before a read", x.blocks(), 0);
        x.read();
        due("blocks() of 2000", x.blocks(), 32);
        x.cut(100);
        x.read();
        due("blocks() after a fault", x.blocks(), 32);
        refill(x, 1, 0);
        x.read();
        due("blocks() of one read", x.blocks(), 0);
    }

    /** Two blocks: the first one with all its parts, the second one with a part of two. */
    private static DeltaRows withTwoBlocks() {
        DeltaRows x = new DeltaRows();
        long v = 1000;
        x.put(v);
        for (int i = 0; i < 66; i++) {
            v += i < 16 ? -5 : i < 32 ? -5 + i % 2 : i < 48 ? 0 : i < 64 ? 1000 : 1L << i % 2 * 62;
            x.put(v);
        }
        due("two blocks: write()", x.write(), 165);
        return x;
    }

    private static void dueParts(String what, DeltaRows x) {
        int[] widths = {0, 1, 3, 10, 62, 0, 0, 0};
        int[] starts = {8, 8, 10, 16, 36 + 5, 36 + 5 + 124, 36 + 5 + 124, 36 + 5 + 124};
        for (int i = 0; i < 8; i++) {
            String where = "(" + i / 4 + ", " + i % 4 + ")";
            due(what + ": width" + where, x.width(i / 4, i % 4), widths[i]);
            due(what + ": start" + where, x.start(i / 4, i % 4), starts[i]);
        }
        due(what + ": least(0)", x.least(0), -5);
        due(what + ": least(1)", x.least(1), 1);
    }

    private static void leastWidthStart() {
        DeltaRows x = withTwoBlocks();
        dueParts("written", x);
        due("least(2)", x.least(2), 0);
        due("least(-1)", x.least(-1), 0);
        due("least(MAX)", x.least(Integer.MAX_VALUE), 0);
        due("least(MIN)", x.least(Integer.MIN_VALUE), 0);
        int[][] none = {{0, -1}, {0, 4}, {1, 4}, {1, -1}, {2, 0}, {-1, 0}, {-1, 4}, {2, -4}, {31, 3}, {32, 0},
            {Integer.MAX_VALUE, 0}, {Integer.MIN_VALUE, 0}, {0, Integer.MAX_VALUE}, {0, Integer.MIN_VALUE},
            {1 << 30, 0}};
        for (int[] p : none) {
            due("width(" + p[0] + ", " + p[1] + ")", x.width(p[0], p[1]), DeltaRows.NONE);
            due("start(" + p[0] + ", " + p[1] + ")", x.start(p[0], p[1]), DeltaRows.NONE);
        }
        x.cut(160);
        due("two blocks: read() of a cut one", x.read(), CUT);
        dueParts("after a fault", x);
        x.write();
        x.clear();
        x.write();
        due("least(0) of none", x.least(0), 0);
        due("width(0, 0) of none", x.width(0, 0), DeltaRows.NONE);
        due("start(0, 0) of none", x.start(0, 0), DeltaRows.NONE);
        readsParts();
    }

    private static void readsParts() {
        DeltaRows x = withTwoBlocks();
        DeltaRows y = new DeltaRows();
        for (int k = 0; k < x.size(); k++) {
            y.append(x.byteAt(k));
        }
        due("two blocks: read()", y.read(), 0);
        dueParts("read", y);
        for (int i = 0; i < 67; i++) {
            due("two blocks: get(" + i + ")", y.get(i), x.get(i));
        }
    }

    public static void main(String[] args) {
        newObject();
        put();
        clear();
        count();
        get();
        write();
        readWell();
        readFaults();
        place();
        size();
        byteAt();
        setByte();
        append();
        cut();
        blocks();
        leastWidthStart();
        System.out.println(wrong == 0 ? "all answers are as due" : wrong + " answers are not as due");
        if (wrong != 0) {
            System.exit(1);
        }
    }
}
