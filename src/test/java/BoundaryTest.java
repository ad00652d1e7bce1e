import java.math.BigInteger;
import java.util.Arrays;

/**
 * One test for each sentence of the document that names a boundary case: too small, too large,
 * empty, full, a wrap-around, a refused call. What is wrong is printed behind the sentence. Objects
 * keep to 512 calls, but for the few tests that say so.
 */
public final class BoundaryTest {
    private static final int NONE = DeltaRows.NONE;
    private static final long MIN = Long.MIN_VALUE;
    private static final long MAX = Long.MAX_VALUE;
    private static final int CUT = 1;
    private static final int VARINT = 2;
    private static final int MANY = 4;
    private static final int BITS = 5;
    private static final int MORE = 6;
    private static final int[] WRONG_PLACES = {-1, -2, Integer.MIN_VALUE, Integer.MIN_VALUE + 1,
        Integer.MAX_VALUE, Integer.MAX_VALUE - 1, 1 << 28, 1 << 29, 1 << 30, -(1 << 29), 20000, 20001};

    private static String sentence = "";
    private static int checks = 0;
    private static int wrong = 0;

    private static void due(String what, long got, long want) {
        checks++;
        if (got != want) {
            wrong++;
            System.out.println("\"" + sentence + "\": " + what + " answered " + got + ", due is " + want);
        }
    }

    private static void due(String what, boolean got, boolean want) {
        due(what, got ? 1 : 0, want ? 1 : 0);
    }

    private static void says(String text, Runnable test) {
        sentence = text;
        int before = checks;
        try {
            test.run();
        } catch (RuntimeException thrown) {
            wrong++;
            System.out.println("\"" + sentence + "\": threw " + thrown);
        }
        if (checks == before) {
            wrong++;
            System.out.println("\"" + sentence + "\": nothing was tested");
        }
    }

    // ---- codes, built up the slow way: numbers as BigIntegers, bits as texts ----

    private static final class Code {
        int[] bytes = new int[0];

        Code add(int... more) {
            int old = bytes.length;
            bytes = Arrays.copyOf(bytes, old + more.length);
            System.arraycopy(more, 0, bytes, old, more.length);
            return this;
        }

        Code varint(BigInteger v) {
            BigInteger rest = v;
            while (rest.compareTo(BigInteger.valueOf(128)) >= 0) {
                add(rest.mod(BigInteger.valueOf(128)).intValue() + 128);
                rest = rest.divide(BigInteger.valueOf(128));
            }
            return add(rest.intValue());
        }

        Code number(long n) {
            return varint(BigInteger.valueOf(n));
        }

        Code zigzag(long v) {
            BigInteger twice = BigInteger.valueOf(v).multiply(BigInteger.TWO);
            return varint(v < 0 ? twice.negate().subtract(BigInteger.ONE) : twice);
        }

        Code part(int width, long... numbers) {
            StringBuilder bits = new StringBuilder();
            for (int i = 0; i < 16; i++) {
                for (int bit = 0; bit < width; bit++) {
                    bits.append(i < numbers.length && (numbers[i] >>> bit & 1) == 1 ? '1' : '0');
                }
            }
            for (int from = 0; from < bits.length(); from += 8) {
                add(Integer.parseInt(new StringBuilder(bits.substring(from, from + 8)).reverse().toString(), 2));
            }
            return this;
        }

        int size() {
            return bytes.length;
        }

        int[] first(int n) {
            return Arrays.copyOf(bytes, n);
        }
    }

    private static Code head(long n, long first) {
        return new Code().number(n).zigzag(first);
    }

    private static long[] same(int n, long v) {
        long[] all = new long[n];
        Arrays.fill(all, v);
        return all;
    }

    /** The code of first, first + step .. */
    private static Code evenCode(int n, long first, long step) {
        Code code = head(n, first);
        for (int left = n - 1; left > 0; left -= 64) {
            code.zigzag(step).add(0, 0, 0, 0);
        }
        return code;
    }

    // ---- objects ----

    private static void putAll(DeltaRows x, long... row) {
        for (long v : row) {
            due("put(" + v + ")", x.put(v), true);
        }
    }

    private static long[] rowOf(long first, long... differences) {
        long[] row = new long[differences.length + 1];
        row[0] = first;
        for (int i = 0; i < differences.length; i++) {
            row[i + 1] = row[i] + differences[i];
        }
        return row;
    }

    private static DeltaRows withRow(long... row) {
        DeltaRows x = new DeltaRows();
        putAll(x, row);
        return x;
    }

    private static void refill(DeltaRows x, int... bytes) {
        due("cut(0)", x.cut(0), true);
        for (int b : bytes) {
            due("append(" + b + ")", x.append(b), true);
        }
    }

    private static DeltaRows withBytes(int... bytes) {
        DeltaRows x = new DeltaRows();
        refill(x, bytes);
        return x;
    }

    private static DeltaRows having(int longs) {
        DeltaRows x = withBytes(evenCode(longs, 3, 1).bytes);
        due("read() of " + longs, x.read(), 0);
        return x;
    }

    private static void dueBytes(DeltaRows x, int... want) {
        due("size()", x.size(), want.length);
        for (int k = 0; k < want.length; k++) {
            due("byteAt(" + k + ") of " + Arrays.toString(want), x.byteAt(k), want[k]);
        }
        due("byteAt(size)", x.byteAt(want.length), NONE);
    }

    private static void dueRow(DeltaRows x, long... want) {
        due("count()", x.count(), want.length);
        for (int i = 0; i < want.length; i++) {
            due("get(" + i + ") of " + Arrays.toString(want), x.get(i), want[i]);
        }
        due("get(count)", x.get(want.length), 0);
    }

    private static void dueWritten(Code code, long... row) {
        DeltaRows x = withRow(row);
        due("write() of " + Arrays.toString(row), x.write(), code.size());
        dueBytes(x, code.bytes);
    }

    private static void dueRead(Code code, long... row) {
        DeltaRows x = withBytes(code.bytes);
        due("read() of " + Arrays.toString(code.bytes), x.read(), 0);
        due("place()", x.place(), NONE);
        dueRow(x, row);
    }

    private static void dueBoth(Code code, long... row) {
        dueWritten(code, row);
        dueRead(code, row);
    }

    /** Reads bytes over a row, and looks that the row, the bytes and what was written stay. */
    private static void dueFault(int fault, int place, int... bytes) {
        DeltaRows x = withRow(7, -8, 1);
        due("write()", x.write(), 17);
        refill(x, bytes);
        due("read() of " + Arrays.toString(bytes), x.read(), fault);
        due("place() of " + Arrays.toString(bytes), x.place(), place);
        dueRow(x, 7, -8, 1);
        dueBytes(x, bytes);
        dueBlocksOfThree(x);
    }

    private static void dueBlocksOfThree(DeltaRows x) {
        due("blocks()", x.blocks(), 1);
        due("least(0)", x.least(0), -15);
        due("least(1)", x.least(1), 0);
        due("width(0, 0)", x.width(0, 0), 5);
        due("start(0, 0)", x.start(0, 0), 7);
        for (int part = 1; part < 4; part++) {
            due("width(0, " + part + ")", x.width(0, part), 0);
            due("start(0, " + part + ")", x.start(0, part), 17);
        }
    }

    private static void dueFault(int fault, int place, Code code) {
        dueFault(fault, place, code.bytes);
    }

    // ---- what it is ----

    private static void lastOf512Calls() {
        DeltaRows x = new DeltaRows();
        for (int i = 0; i < 510; i++) {
            x.put(2 * i);
        }
        due("write(), the 511th call", x.write(), 3 + 8 * 5);
        due("byteAt(3), the 512th call", x.byteAt(3), 4);
        x = new DeltaRows();
        for (int k = 0; k < 510; k++) {
            x.append(k == 0 ? 0 : 9);
        }
        due("read(), the 511th call", x.read(), MORE);
        due("place(), the 512th call", x.place(), 1);
    }

    // ---- Terms: the row and the bytes ----

    private static void rowLimit() {
        DeltaRows x = having(1999);
        due("count()", x.count(), 1999);
        due("put() of the 2000th", x.put(-4), true);
        due("put() of the 2001st", x.put(-5), false);
        due("count()", x.count(), 2000);
        due("get(1998)", x.get(1998), 2001);
        due("get(1999)", x.get(1999), -4);
        // -2005 less 1 is what the last difference, the 1999th, takes: 14 others stand in its part.
        due("write()", x.write(), 3 + 31 * 5 + 2 + 4 + 2 * 11);
        due("blocks()", x.blocks(), 32);
        due("read()", x.read(), 0);
        due("get(1999)", x.get(1999), -4);
        due("get(1998)", x.get(1998), 2001);
    }

    /** More than 512 calls: no fewer make such a row. */
    private static void largestCode() {
        DeltaRows x = new DeltaRows();
        long v = MIN;
        for (int i = 0; i < 2000; i++) {
            x.put(v);
            v += i % 2 == 0 ? MAX : MIN;
        }
        due("write() of the largest code", x.write(), 12 + 31 * (10 + 4 + 512) + 10 + 4 + 128);
        due("start(31, 3)", x.start(31, 3), 16460);
        due("width(31, 0)", x.width(31, 0), 64);
        x.clear();
        due("read() of the largest code", x.read(), 0);
        due("count()", x.count(), 2000);
        v = MIN;
        for (int i = 0; i < 2000; i++) {
            due("get(" + i + ")", x.get(i), v);
            v += i % 2 == 0 ? MAX : MIN;
        }
    }

    /** More than 512 calls: no fewer make 20000 bytes. */
    private static void byteLimit() {
        DeltaRows x = new DeltaRows();
        for (int k = 0; k < 20000; k++) {
            due("append() onto " + k, x.append(k * 7), true);
        }
        due("append() onto 20000", x.append(1), false);
        due("size()", x.size(), 20000);
        for (int k = 0; k < 20000; k++) {
            due("byteAt(" + k + ")", x.byteAt(k), k * 7 % 256);
        }
        due("byteAt(20000)", x.byteAt(20000), NONE);
        due("setByte(20000, 1)", x.setByte(20000, 1), false);
        due("setByte(19999, 1)", x.setByte(19999, 1), true);
        due("cut(20001)", x.cut(20001), false);
        due("cut(20000)", x.cut(20000), true);
        due("size()", x.size(), 20000);
        due("read()", x.read(), MORE);
        due("place()", x.place(), 1);
        due("write()", x.write(), 1);
    }

    /** More than 512 calls: a long code, and bytes behind it as far as the limit lets them. */
    private static void readAtByteLimit() {
        Code code = head(2000, 0);
        for (int block = 0; block < 31; block++) {
            code.zigzag(MIN).add(64, 64, 64, 64).add(new int[512]);
        }
        code.zigzag(MIN).add(64, 0, 0, 0).add(new int[128]);
        DeltaRows x = withBytes(code.bytes);
        due("read()", x.read(), 0);
        due("get(1999)", x.get(1999), MIN);
        for (int k = code.size(); k < 20000; k++) {
            due("append(255)", x.append(255), true);
        }
        due("append(255) onto 20000", x.append(255), false);
        due("size()", x.size(), 20000);
        due("read() of 20000", x.read(), MORE);
        due("place()", x.place(), code.size());
    }

    private static void byteRange() {
        DeltaRows x = new DeltaRows();
        int[] given = {0, 255, 256, -1, -256, -255, 511, 128, -128, Integer.MIN_VALUE, Integer.MAX_VALUE};
        int[] want = {0, 255, 0, 255, 0, 1, 255, 128, 128, 0, 255};
        for (int v : given) {
            due("append(" + v + ")", x.append(v), true);
        }
        dueBytes(x, want);
        for (int v = 0; v < 256; v++) {
            x = withBytes(v, 255 - v);
            dueBytes(x, v, 255 - v);
            due("setByte(0, " + (255 - v) + ")", x.setByte(0, 255 - v), true);
            dueBytes(x, 255 - v, 255 - v);
        }
    }

    private static void emptyAtFirst() {
        DeltaRows x = new DeltaRows();
        dueRow(x);
        dueBytes(x);
        due("read()", new DeltaRows().read(), CUT);
        due("write()", new DeltaRows().write(), 1);
    }

    // ---- Terms: VARINT and ZIGZAG ----

    private static void varintLengths() {
        for (int k = 1; k <= 9; k++) {
            // The largest number of k bytes is odd: of one below 0; the least of k + 1 is even.
            long half = 1L << (7 * k - 1);
            int[] full = new int[k];
            Arrays.fill(full, 255);
            full[k - 1] = 127;
            int[] next = new int[k + 1];
            Arrays.fill(next, 128);
            next[k] = 1;
            dueBoth(new Code().add(1).add(full), -half);
            dueBoth(new Code().add(1).add(next), half);
        }
        dueBoth(new Code().add(127).zigzag(3).add(0, 0, 0, 0, 0, 0, 0, 0, 0, 0), same(127, 3));
        dueBoth(new Code().add(128, 1).zigzag(3).add(0, 0, 0, 0, 0, 0, 0, 0, 0, 0), same(128, 3));
        dueBoth(head(2, 0).add(254, 255, 255, 255, 255, 255, 255, 255, 255, 1, 0, 0, 0, 0), 0, MAX);
    }

    private static void varintZeroAlone() {
        dueBoth(new Code().add(0));
        dueBoth(new Code().add(1, 0), 0);
        dueBoth(new Code().add(2, 0, 0, 0, 0, 0, 0), 0, 0);
    }

    private static void varintZeroLast() {
        for (int before = 1; before <= 9; before++) {
            for (int full : new int[] {128, 129, 255}) {
                int[] bad = new int[before + 1];
                Arrays.fill(bad, full);
                bad[before] = 0;
                dueFault(VARINT, 0, new Code().add(bad));
                dueFault(VARINT, 1, new Code().add(1).add(bad));
                dueFault(VARINT, 2, new Code().add(2, 0).add(bad).add(0, 0, 0, 0));
                dueFault(VARINT, 7, new Code().add(66, 0, 0, 0, 0, 0, 0).add(bad).add(0, 0, 0, 0));
            }
        }
    }

    private static int[] ten(int nine, int tenth) {
        int[] bytes = new int[10];
        Arrays.fill(bytes, nine);
        bytes[9] = tenth;
        return bytes;
    }

    private static void varintTenBytes() {
        dueRead(new Code().add(1).add(ten(255, 1)), MIN);
        dueRead(new Code().add(1).add(ten(128, 1)), 1L << 62);
        dueRead(head(2, 5).add(ten(255, 1)).add(0, 0, 0, 0), 5, MIN + 5);
        for (int tenth : new int[] {0, 2, 3, 64, 127, 128, 129, 130, 254, 255}) {
            for (int nine : new int[] {128, 255}) {
                dueFault(VARINT, 0, new Code().add(ten(nine, tenth)));
                dueFault(VARINT, 1, new Code().add(1).add(ten(nine, tenth)));
                dueFault(VARINT, 2, new Code().add(2, 0).add(ten(nine, tenth)));
                dueFault(VARINT, 1, new Code().add(1).add(ten(nine, tenth)).add(0));
                dueFault(VARINT, 1, new Code().add(1).add(ten(nine, tenth)).add(1));
            }
        }
        // Nine bytes that all have one more to come are cut, not wrong yet.
        dueFault(CUT, 9, new Code().add(ten(255, 1)).first(9));
        dueFault(CUT, 10, new Code().add(1).add(ten(128, 1)).first(10));
    }

    private static void zigzagEdges() {
        dueBoth(new Code().add(1, 0), 0);
        dueBoth(new Code().add(1, 1), -1);
        dueBoth(new Code().add(1, 2), 1);
        dueBoth(new Code().add(1, 3), -2);
        dueBoth(new Code().add(1).add(ten(255, 1)), MIN);
        dueBoth(new Code().add(1, 254).add(255, 255, 255, 255, 255, 255, 255, 255, 1), MAX);
        dueBoth(new Code().add(1, 253).add(255, 255, 255, 255, 255, 255, 255, 255, 1), MIN + 1);
        dueBoth(head(2, 0).add(ten(255, 1)).add(0, 0, 0, 0), 0, MIN);
        dueBoth(head(2, 0).add(1, 0, 0, 0, 0), 0, -1);
    }

    // ---- Terms: CODE ----

    private static void codeOfFew() {
        dueBoth(new Code().add(0));
        dueBoth(new Code().add(1, 14), 7);
        dueBoth(new Code().add(2, 14, 4, 0, 0, 0, 0), 7, 9);
        DeltaRows x = withRow(7);
        x.write();
        due("blocks() of one", x.blocks(), 0);
        x.clear();
        due("write() of none", x.write(), 1);
        due("blocks() of none", x.blocks(), 0);
        dueFault(MORE, 1, 0, 14);
        dueFault(CUT, 1, 1);
    }

    private static void differencesWrap() {
        dueBoth(head(2, MIN).zigzag(-1).add(0, 0, 0, 0), MIN, MAX);
        dueBoth(head(2, MAX).zigzag(1).add(0, 0, 0, 0), MAX, MIN);
        dueBoth(head(2, MIN).zigzag(MIN).add(0, 0, 0, 0), MIN, 0);
        dueBoth(head(2, 0).zigzag(MIN).add(0, 0, 0, 0), 0, MIN);
        dueBoth(head(2, -1).zigzag(MIN).add(0, 0, 0, 0), -1, MAX);
        dueBoth(head(2, 1).zigzag(MAX).add(0, 0, 0, 0), 1, MIN);
        dueBoth(head(3, MAX).zigzag(-2).add(2, 0, 0, 0).part(2, 3, 0), MAX, MIN, MAX - 1);
    }

    private static void blocksOf64() {
        int[][] longsAndBlocks = {{2, 1}, {3, 1}, {63, 1}, {64, 1}, {65, 1}, {66, 2}, {67, 2}, {128, 2}, {129, 2},
            {130, 3}, {193, 3}, {194, 4}};
        for (int[] pair : longsAndBlocks) {
            int n = pair[0];
            Code code = evenCode(n, -3, 70);
            long[] row = rowOf(-3, same(n - 1, 70));
            dueBoth(code, row);
            DeltaRows x = withRow(row);
            x.write();
            due("blocks() of " + n, x.blocks(), pair[1]);
            due("least(last)", x.least(pair[1] - 1), 70);
            due("least(last + 1)", x.least(pair[1]), 0);
        }
        // The 64th difference is the last one of the first block, the 65th the first of the second.
        long[] differences = same(65, 4);
        differences[63] = 3;
        differences[64] = 9;
        Code code = head(66, 0).zigzag(3).add(1, 1, 1, 1).add(255, 255, 255, 255, 255, 255, 255, 127)
                .zigzag(9).add(0, 0, 0, 0);
        dueBoth(code, rowOf(0, differences));
    }

    private static void leastWithSigns() {
        dueBoth(head(3, 0).zigzag(-1).add(1, 0, 0, 0).part(1, 0, 1), rowOf(0, -1, 0));
        dueBoth(head(3, 0).zigzag(-1).add(1, 0, 0, 0).part(1, 1, 0), rowOf(0, 0, -1));
        dueBoth(head(3, 5).zigzag(MIN).add(64, 0, 0, 0).part(64, -1, 0), rowOf(5, MAX, MIN));
        dueBoth(head(3, 5).zigzag(-3).add(1, 0, 0, 0).part(1, 0, 1), rowOf(5, -3, -2));
        // The least one in every place of a block and of the one behind it.
        for (int at : new int[] {0, 1, 15, 16, 31, 32, 47, 48, 62, 63, 64, 79, 80, 99}) {
            long[] differences = same(100, 10);
            differences[at] = -6;
            DeltaRows x = withRow(rowOf(1, differences));
            x.write();
            due("least(0), least at " + at, x.least(0), at < 64 ? -6 : 10);
            due("least(1), least at " + at, x.least(1), at < 64 ? 10 : -6);
            x.clear();
            due("read()", x.read(), 0);
            dueRow(x, rowOf(1, differences));
        }
    }

    private static void partsOfSixteen() {
        for (int m : new int[] {1, 2, 15, 16, 17, 31, 32, 33, 47, 48, 49, 63, 64}) {
            // The last difference is 1 more than the others: its part alone has a width, if m > 1.
            long[] differences = same(m, 2);
            differences[m - 1] = 3;
            int part = (m - 1) / 16;
            int[] widths = new int[4];
            widths[part] = m > 1 ? 1 : 0;
            long[] ones = new long[m - part * 16];
            ones[ones.length - 1] = 1;
            Code code = head(m + 1, 0).zigzag(m > 1 ? 2 : 3).add(widths).part(widths[part], ones);
            dueBoth(code, rowOf(0, differences));
        }
    }

    private static void lessTheLeastWraps() {
        // MAX less MIN is 2 to the 64 less 1; 0 less MIN is 2 to the 63; MIN + 1 less MIN is 1.
        Code code = head(5, 3).zigzag(MIN).add(64, 0, 0, 0).part(64, -1, MIN, 1, 0);
        dueBoth(code, rowOf(3, MAX, 0, MIN + 1, MIN));
        // 1 less MIN + 2 is MAX: 63 bits are enough.
        code = head(3, 3).zigzag(MIN + 2).add(63, 0, 0, 0).part(63, MAX, 0);
        dueBoth(code, rowOf(3, 1, MIN + 2));
        code = head(3, 3).zigzag(MIN + 2).add(64, 0, 0, 0).part(64, MIN, 0);
        dueBoth(code, rowOf(3, 2, MIN + 2));
    }

    private static void bitsInOrder() {
        dueBoth(head(3, 0).zigzag(0).add(1, 0, 0, 0).add(2, 0), rowOf(0, 0, 1));
        dueBoth(head(3, 0).zigzag(0).add(1, 0, 0, 0).add(1, 0), rowOf(0, 1, 0));
        dueBoth(head(3, 0).zigzag(0).add(5, 0, 0, 0).add(32, 2, 0, 0, 0, 0, 0, 0, 0, 0), rowOf(0, 0, 17));
        long[] differences = same(16, 0);
        differences[15] = 1;
        dueBoth(head(17, 0).zigzag(0).add(1, 0, 0, 0).add(0, 128), rowOf(0, differences));
        differences[15] = 4;
        dueBoth(head(17, 0).zigzag(0).add(3, 0, 0, 0).add(0, 0, 0, 0, 0, 128), rowOf(0, differences));
        // Numbers that go over the edge of a byte, and of eight bytes.
        for (int width : new int[] {7, 9, 13, 31, 33, 57, 61, 63}) {
            long[] numbers = new long[16];
            for (int i = 1; i < 16; i++) {
                numbers[i] = (0x9E3779B97F4A7C15L * i | 1L << (width - 1)) & ((1L << width) - 1);
            }
            Code code = head(17, 0).zigzag(0).add(width, 0, 0, 0).part(width, numbers);
            dueBoth(code, rowOf(0, numbers));
        }
    }

    private static void leftBitsAreZero() {
        for (int width : new int[] {1, 3, 8, 33, 64}) {
            DeltaRows x = new DeltaRows();
            for (int k = 0; k < 180; k++) {
                x.append(255);
            }
            long most = width == 64 ? -1 : (1L << width) - 1;
            long least = width == 64 ? MIN : -1;
            putAll(x, rowOf(0, least, least + most));
            Code code = head(3, 0).zigzag(least).add(width, 0, 0, 0).part(width, 0, most);
            due("write()", x.write(), code.size());
            dueBytes(x, code.bytes);
        }
    }

    private static void partBytes() {
        for (int width = 0; width <= 64; width++) {
            Code code = head(50, 0).zigzag(0).add(width, 0, width, width);
            int from = code.size();
            code.add(new int[6 * width]);
            DeltaRows x = withBytes(code.bytes);
            due("read()", x.read(), 0);
            due("start(0, 0)", x.start(0, 0), from);
            due("start(0, 1)", x.start(0, 1), from + 2 * width);
            due("start(0, 2)", x.start(0, 2), from + 2 * width);
            due("start(0, 3)", x.start(0, 3), from + 4 * width);
        }
    }

    private static void widthWithoutDifferences() {
        for (int m : new int[] {1, 15, 16, 17, 32, 33, 48, 49, 64}) {
            // Before it another row was written, with widths in all parts.
            DeltaRows x = new DeltaRows();
            for (int i = 0; i < 65; i++) {
                x.put(i % 3 * 1000);
            }
            x.write();
            x.clear();
            for (int i = 0; i <= m; i++) {
                x.put(i % 2 == 0 ? i * 100 : 0);
            }
            x.write();
            due("width(0, 0) of " + m + " is above 0", x.width(0, 0) > 0, m > 1);
            for (int part = 0; part < 4; part++) {
                if (part * 16 >= m) {
                    due("width(0, " + part + ") of " + m, x.width(0, part), 0);
                    due("its byte", x.byteAt(x.start(0, 0) - 4 + part), 0);
                }
            }
        }
    }

    private static void widthsAsLittleAsCanBe() {
        for (int width = 1; width <= 64; width++) {
            long least = width == 64 ? MIN : -5;
            long largest = -1L >>> (64 - width);
            long smallest = 1L << (width - 1);
            for (long number : new long[] {largest, smallest}) {
                int part = width % 4;
                long[] differences = same(64, least);
                int at = part * 16 + width % 15;
                differences[at] = least + number;
                int[] widths = new int[4];
                widths[part] = width;
                long[] numbers = new long[16];
                numbers[width % 15] = number;
                dueBoth(head(65, 0).zigzag(least).add(widths).part(width, numbers), rowOf(0, differences));
            }
        }
        dueBoth(head(65, 0).zigzag(MIN).add(0, 0, 0, 0), rowOf(0, same(64, MIN)));
    }

    // ---- Terms: READ ----

    private static void firstFaultIsTold() {
        // VARINT before MANY before CUT.
        dueFault(VARINT, 0, ten(255, 2));
        dueFault(MANY, 0, 209, 15);
        dueFault(MANY, 0, 209, 15, 128, 0);
        // A width's fault before the widths end, and before the parts' faults.
        dueFault(BITS, 3, 2, 0, 0, 65);
        dueFault(BITS, 6, 50, 0, 0, 1, 1, 1, 65, 255, 255);
        dueFault(BITS, 6, 34, 0, 0, 1, 1, 0, 1);
        // The first of two widths, and a width that is too large before one without differences.
        dueFault(BITS, 3, 2, 0, 0, 65, 1, 0, 0);
        dueFault(BITS, 4, 2, 0, 0, 1, 1, 65, 0, 2, 0);
        // A bit that is left before the bytes that are more; a cut part before the bits in it.
        dueFault(BITS, 7, 2, 0, 0, 1, 0, 0, 0, 2, 0, 9);
        dueFault(BITS, 9, 18, 0, 0, 1, 1, 0, 0, 255, 255, 2, 0, 0, 0);
        dueFault(CUT, 10, 18, 0, 0, 1, 1, 0, 0, 255, 255, 2);
        // In the first block before the second one.
        dueFault(VARINT, 2, new Code().add(66, 0, 128, 0, 0, 0, 0, 0).add(128, 0, 65));
        dueFault(BITS, 3, new Code().add(66, 0, 0, 65, 0, 0, 0).add(128, 0, 65));
        dueFault(VARINT, 7, new Code().add(66, 0, 0, 0, 0, 0, 0).add(128, 0, 65, 0, 0, 0, 9));
        dueFault(BITS, 8, new Code().add(66, 0, 0, 0, 0, 0, 0).add(0, 65, 0, 0, 0, 9));
        dueFault(CUT, 7, new Code().add(66, 0, 0, 64, 0, 0, 0));
    }

    private static Code twoBlocks() {
        return head(70, -300).zigzag(-70).add(1, 0, 9, 2)
                .part(1, 1, 0, 1, 0, 1, 0, 1, 0, 1, 0, 1, 0, 1, 0, 1, 0)
                .part(9, 511, 0, 0, 256)
                .part(2, 3, 3, 3, 3, 3, 3, 3, 3, 3, 3, 3, 3, 3, 3, 3, 3)
                .zigzag(MIN).add(3, 0, 0, 0).part(3, 7, 0, 1, 2, 7);
    }

    private static void cutAnywhere() {
        Code code = twoBlocks();
        for (int n = 0; n < code.size(); n++) {
            dueFault(CUT, n, code.first(n));
        }
        DeltaRows x = withBytes(code.bytes);
        due("read() of all", x.read(), 0);
        due("place() of all", x.place(), NONE);
        Code of2000 = evenCode(2000, 3, 1);
        for (int n : new int[] {0, 1, 2, 3, 4, 157, 158, 159, 160, 161, 162}) {
            dueFault(CUT, n, of2000.first(n));
        }
    }

    private static void partsComeAtOnce() {
        // Bits that are left and not 0 stand in the bytes that are there, but one byte is missing.
        for (int width : new int[] {1, 2, 9, 64}) {
            Code code = head(2, 0).zigzag(0).add(width, 0, 0, 0);
            int begin = code.size();
            int[] full = new int[2 * width];
            Arrays.fill(full, 255);
            code.add(full);
            dueFault(BITS, begin, code);
            dueFault(CUT, code.size() - 1, code.first(code.size() - 1));
            dueFault(CUT, begin, code.first(begin));
        }
        Code second = head(18, 0).zigzag(0).add(1, 1, 0, 0).add(255, 255, 255);
        dueFault(CUT, second.size(), second);
    }

    private static void varintPlaces() {
        int[] bad = {129, 128, 0};
        dueFault(VARINT, 0, bad);
        dueFault(VARINT, 1, new Code().add(5).add(bad));
        dueFault(VARINT, 2, new Code().number(300).add(bad));
        dueFault(VARINT, 2, new Code().add(5, 9).add(bad));
        dueFault(VARINT, 4, head(5, 1 << 19).add(bad));
        Code second = head(80, 9).zigzag(4000).add(0, 1, 0, 0).part(1, 1);
        dueFault(VARINT, second.size(), second.add(bad));
    }

    private static void manyLongs() {
        dueFault(MANY, 0, new Code().number(2001));
        dueFault(MANY, 0, new Code().number(2001).add(0, 0, 0, 0, 0, 0));
        dueFault(MANY, 0, new Code().number(2048));
        dueFault(MANY, 0, new Code().number(1L << 31));
        dueFault(MANY, 0, new Code().number(1L << 32));
        dueFault(MANY, 0, new Code().number((1L << 32) + 5));
        dueFault(MANY, 0, new Code().number(MAX));
        dueFault(MANY, 0, new Code().varint(BigInteger.ONE.shiftLeft(63)));
        dueFault(MANY, 0, new Code().varint(BigInteger.ONE.shiftLeft(63).add(BigInteger.TWO)));
        dueFault(MANY, 0, new Code().varint(BigInteger.ONE.shiftLeft(64).subtract(BigInteger.ONE)));
        DeltaRows x = having(2000);
        due("count()", x.count(), 2000);
        due("get(1999)", x.get(1999), 2002);
    }

    private static void widthAbove64() {
        for (int part = 0; part < 4; part++) {
            for (int width : new int[] {65, 66, 127, 128, 129, 192, 255}) {
                int[] widths = new int[4];
                widths[part] = width;
                dueFault(BITS, 3 + part, new Code().add(65, 0, 0).add(widths));
                dueFault(BITS, 3 + part, new Code().add(2, 0, 0).add(widths));
                dueFault(BITS, 9 + part, new Code().add(129, 1, 0, 0, 0, 0, 0, 0, 0).add(widths));
            }
            int[] widths = new int[4];
            widths[part] = 64;
            Code code = new Code().add(65, 0, 0).add(widths).part(64, same(16, -1));
            long[] differences = new long[64];
            Arrays.fill(differences, part * 16, part * 16 + 16, -1);
            dueRead(code, rowOf(0, differences));
        }
    }

    private static void widthNotZeroWithoutDifferences() {
        for (int m : new int[] {1, 16, 17, 32, 33, 48}) {
            for (int part = (m + 15) / 16; part < 4; part++) {
                for (int width : new int[] {1, 64}) {
                    int[] widths = new int[4];
                    widths[part] = width;
                    Code code = head(m + 1, 0).zigzag(0).add(widths).add(new int[2 * width]);
                    dueFault(BITS, 3 + part, code);
                }
            }
            // The last part that has one difference or more may have a width.
            int last = (m - 1) / 16;
            int[] widths = new int[4];
            widths[last] = 1;
            dueRead(head(m + 1, 0).zigzag(0).add(widths).add(0, 0), rowOf(0, same(m, 0)));
        }
    }

    private static void leftBitsNotZero() {
        for (int longs = 1; longs <= 16; longs++) {
            for (int width : new int[] {1, 2, 3, 5}) {
                for (int bit = 0; bit < 16 * width; bit++) {
                    Code code = head(longs + 1, 0).zigzag(0).add(width, 0, 0, 0);
                    int[] part = new int[2 * width];
                    part[bit / 8] = 1 << bit % 8;
                    code.add(part);
                    if (bit < longs * width) {
                        DeltaRows x = withBytes(code.bytes);
                        due("read()", x.read(), 0);
                        due("get()", x.get(bit / width), 0);
                        due("get()", x.get(bit / width + 1), 1L << bit % width);
                    } else {
                        dueFault(BITS, 7, code);
                    }
                }
            }
        }
        leftBitsOfLaterParts();
    }

    private static void leftBitsOfLaterParts() {
        for (int part = 1; part < 4; part++) {
            int[] widths = {2, 2, 2, 2};
            Arrays.fill(widths, part + 1, 4, 0);
            Code code = head(part * 16 + 2, 0).zigzag(0).add(widths);
            for (int i = 0; i < part; i++) {
                code.part(2, same(16, 3));
            }
            int begin = code.size();
            dueFault(BITS, begin, new Code().add(code.bytes).add(7, 0, 0, 0));
            dueFault(BITS, begin, new Code().add(code.bytes).add(0, 0, 0, 128));
            dueFault(BITS, begin, new Code().add(code.bytes).add(0, 0, 0, 128, 1));
            DeltaRows x = withBytes(new Code().add(code.bytes).add(3, 0, 0, 0).bytes);
            due("read()", x.read(), 0);
        }
        int[] most = new int[128];
        most[8] = 1;
        dueFault(BITS, 7, head(2, 0).zigzag(0).add(64, 0, 0, 0).add(most));
        most[8] = 0;
        most[127] = 128;
        dueFault(BITS, 7, head(2, 0).zigzag(0).add(64, 0, 0, 0).add(most));
    }

    private static void moreBytes() {
        for (int more : new int[] {0, 1, 128, 255}) {
            dueFault(MORE, 1, 0, more);
            dueFault(MORE, 2, 1, 5, more);
            dueFault(MORE, 7, 2, 5, 0, 0, 0, 0, 0, more);
            dueFault(MORE, 9, 2, 5, 0, 1, 0, 0, 0, 1, 0, more, more);
            Code code = twoBlocks();
            int end = code.size();
            dueFault(MORE, end, code.add(more));
            code = evenCode(2000, 3, 1);
            dueFault(MORE, 163, code.add(more));
        }
    }

    private static void noFault() {
        Code code = twoBlocks();
        DeltaRows x = withRow(1, 2, 3);
        due("read() of no bytes", x.read(), CUT);
        refill(x, code.bytes);
        due("read()", x.read(), 0);
        due("place()", x.place(), NONE);
        due("count()", x.count(), 70);
        dueBytes(x, code.bytes);
    }

    private static void moreThanTheyMust() {
        // Differences 5 and 6, with every width from 1 on, and with every least one up to them.
        for (int width = 1; width <= 64; width++) {
            dueRead(head(3, 0).zigzag(5).add(width, 0, 0, 0).part(width, 0, 1), 0, 5, 11);
            if (width >= 3) {
                dueRead(head(3, 0).zigzag(0).add(width, 0, 0, 0).part(width, 5, 6), 0, 5, 11);
            }
        }
        dueRead(head(3, 0).zigzag(4).add(2, 0, 0, 0).part(2, 1, 2), 0, 5, 11);
        dueRead(head(3, 0).zigzag(MIN).add(64, 0, 0, 0).part(64, 5 - MIN, 6 - MIN), 0, 5, 11);
        dueRead(head(17, 0).zigzag(0).add(64, 0, 0, 0).part(64, same(16, 0)), same(17, 0));
        // Modulo 2 to the 64 a sum may go round: 7 and 2 to the 64 less 2 are 5.
        dueRead(head(3, 0).zigzag(7).add(64, 0, 0, 0).part(64, -2, -1), 0, 5, 11);
        dueRead(head(2, 0).zigzag(MAX).add(1, 0, 0, 0).part(1, 1), 0, MIN);
        dueRead(head(3, MAX).zigzag(MAX).add(64, 0, 0, 0).part(64, -1, 0), MAX, -3, MAX - 3);
        toldBytesAreAnswered();
    }

    /** least and width answer what was read; written again, they are as little as can be. */
    private static void toldBytesAreAnswered() {
        DeltaRows x = withBytes(head(3, 0).zigzag(-9).add(40, 0, 0, 0).part(40, 14, 15).bytes);
        due("read()", x.read(), 0);
        dueRow(x, 0, 5, 11);
        due("least(0) read", x.least(0), -9);
        due("width(0, 0) read", x.width(0, 0), 40);
        due("start(0, 1) read", x.start(0, 1), 87);
        due("write()", x.write(), 9);
        due("least(0) written", x.least(0), 5);
        due("width(0, 0) written", x.width(0, 0), 1);
        due("start(0, 1) written", x.start(0, 1), 9);
    }

    // ---- the promises ----

    private static void newObject() {
        DeltaRows x = new DeltaRows();
        due("count()", x.count(), 0);
        due("size()", x.size(), 0);
        due("place()", x.place(), NONE);
        due("blocks()", x.blocks(), 0);
        DeltaRows full = having(2000);
        DeltaRows other = new DeltaRows();
        due("another one's count()", other.count(), 0);
        due("another one's size()", other.size(), 0);
        due("another one's blocks()", other.blocks(), 0);
        due("the full one's count()", full.count(), 2000);
        due("NONE", NONE, -1);
    }

    private static void putRefused() {
        DeltaRows x = having(2000);
        for (long v : new long[] {0, 1, -1, MIN, MAX}) {
            due("put(" + v + ") onto 2000", x.put(v), false);
        }
        due("count()", x.count(), 2000);
        due("get(0)", x.get(0), 3);
        due("get(1999)", x.get(1999), 2002);
        due("get(2000)", x.get(2000), 0);
        due("size()", x.size(), 163);
        due("blocks()", x.blocks(), 32);
        due("place()", x.place(), NONE);
        x.clear();
        due("put() after clear()", x.put(8), true);
        dueRow(x, 8);
        x = having(1999);
        due("put() onto 1999", x.put(MIN), true);
        due("put() onto 2000", x.put(MAX), false);
        due("get(1999)", x.get(1999), MIN);
    }

    private static void putTakesAll() {
        long[] row = {0, MIN, MAX, -1, 1, MAX, MIN};
        dueRow(withRow(row), row);
    }

    private static void clearEmpties() {
        DeltaRows x = new DeltaRows();
        x.clear();
        dueRow(x);
        x = withRow(7, -8, 1);
        due("write()", x.write(), 17);
        x.cut(16);
        due("read()", x.read(), CUT);
        x.clear();
        dueRow(x);
        for (int i = 0; i < 4; i++) {
            due("get(" + i + ")", x.get(i), 0);
        }
        due("size() stays", x.size(), 16);
        due("place() stays", x.place(), 16);
        dueBlocksOfThree(x);
        x.clear();
        dueRow(x);
        putAll(x, 4);
        dueRow(x, 4);
        x = having(2000);
        x.clear();
        dueRow(x);
        due("get(1999)", x.get(1999), 0);
        due("write()", x.write(), 1);
    }

    private static void countsLongs() {
        DeltaRows x = new DeltaRows();
        due("count() of none", x.count(), 0);
        x.put(5);
        due("count() of one", x.count(), 1);
        x = having(1999);
        due("count()", x.count(), 1999);
        x.put(1);
        due("count()", x.count(), 2000);
        x.put(1);
        due("count() after a refused put", x.count(), 2000);
        refill(x, 0);
        due("read() of none", x.read(), 0);
        due("count()", x.count(), 0);
    }

    private static void getWithoutSuch() {
        for (int longs : new int[] {0, 1, 2}) {
            DeltaRows x = withRow(Arrays.copyOf(new long[] {11, 12}, longs));
            for (int i : WRONG_PLACES) {
                due("get(" + i + ") of " + longs, x.get(i), 0);
            }
            for (int i = 0; i < 3; i++) {
                due("get(" + i + ") of " + longs, x.get(i), i < longs ? 11 + i : 0);
            }
        }
        DeltaRows x = having(2000);
        due("get(1999)", x.get(1999), 2002);
        due("get(2000)", x.get(2000), 0);
        due("get(2001)", x.get(2001), 0);
        refill(x, 1, 2);
        due("read() of one", x.read(), 0);
        due("get(1), one that was", x.get(1), 0);
    }

    private static void writeReplaces() {
        DeltaRows x = new DeltaRows();
        due("write() of none", x.write(), 1);
        dueBytes(x, 0);
        due("write() once more", x.write(), 1);
        dueBytes(x, 0);
        x = withBytes(9, 9, 9, 9, 9);
        due("write() of none over five", x.write(), 1);
        dueBytes(x, 0);
        x = having(2000);
        due("write() of 2000", x.write(), 163);
        dueBytes(x, evenCode(2000, 3, 1).bytes);
        due("count() stays", x.count(), 2000);
        x = withBytes(1);
        due("read()", x.read(), CUT);
        due("write()", x.write(), 1);
        due("place() stays", x.place(), 1);
    }

    private static void readRefused() {
        // The fault stands in the last bytes: all before would have changed the row.
        Code code = evenCode(2000, 3, 1);
        code.bytes[162] = 1;
        dueFault(BITS, 162, code);
        DeltaRows x = having(2000);
        x.cut(162);
        due("read()", x.read(), CUT);
        due("place()", x.place(), 162);
        due("count()", x.count(), 2000);
        due("get(1999)", x.get(1999), 2002);
        due("blocks()", x.blocks(), 32);
        due("least(31)", x.least(31), 1);
        due("start(31, 3)", x.start(31, 3), 163);
        refill(x, 2, 9);
        due("read()", x.read(), CUT);
        due("get(0)", x.get(0), 3);
        due("get(1999)", x.get(1999), 2002);
        due("put()", x.put(1), false);
    }

    private static void readTells() {
        DeltaRows x = having(2000);
        refill(x, 0);
        due("read() of none", x.read(), 0);
        dueRow(x);
        dueBytes(x, 0);
        refill(x, 1, 7);
        due("read() of one", x.read(), 0);
        due("read() once more", x.read(), 0);
        dueRow(x, -4);
        x.put(6);
        due("read() after put()", x.read(), 0);
        dueRow(x, -4);
    }

    private static void placeNone() {
        DeltaRows x = new DeltaRows();
        due("place() without a read", x.place(), NONE);
        x.write();
        x.append(0);
        due("place() without a read", x.place(), NONE);
        due("read()", x.read(), MORE);
        due("place()", x.place(), 1);
        x.cut(1);
        due("place() before the next read", x.place(), 1);
        due("read()", x.read(), 0);
        due("place() of none", x.place(), NONE);
        x.cut(0);
        due("read() of no bytes", x.read(), CUT);
        due("place() of no bytes", x.place(), 0);
        x.write();
        x.put(1);
        x.clear();
        due("place() of the latest read", x.place(), 0);
    }

    private static void sizes() {
        DeltaRows x = new DeltaRows();
        due("size() of none", x.size(), 0);
        x.append(1);
        due("size() of one", x.size(), 1);
        x.setByte(1, 1);
        x.cut(2);
        x.cut(-1);
        due("size() after refused calls", x.size(), 1);
        x.read();
        due("size() after a fault", x.size(), 1);
        x.cut(0);
        due("size()", x.size(), 0);
    }

    private static void byteAtWithoutSuch() {
        for (int n : new int[] {0, 1, 8, 9}) {
            DeltaRows x = withBytes(Arrays.copyOf(new int[] {41, 42, 43, 44, 45, 46, 47, 48, 49}, n));
            for (int k : WRONG_PLACES) {
                due("byteAt(" + k + ") of " + n, x.byteAt(k), NONE);
            }
            for (int k = 0; k < 12; k++) {
                due("byteAt(" + k + ") of " + n, x.byteAt(k), k < n ? 41 + k : NONE);
            }
        }
        DeltaRows x = withBytes(1, 2, 3);
        x.cut(2);
        due("byteAt(2), one that was", x.byteAt(2), NONE);
        x.write();
        due("byteAt(1), one that was", x.byteAt(1), NONE);
    }

    private static void setByteRefused() {
        DeltaRows x = new DeltaRows();
        due("setByte(0, 1) of none", x.setByte(0, 1), false);
        dueBytes(x);
        x = withBytes(1, 2, 3);
        for (int k : WRONG_PLACES) {
            due("setByte(" + k + ", 9)", x.setByte(k, 9), false);
        }
        due("setByte(3, 9)", x.setByte(3, 9), false);
        dueBytes(x, 1, 2, 3);
        x.append(7);
        due("byteAt(3)", x.byteAt(3), 7);
        due("setByte(0, 9)", x.setByte(0, 9), true);
        due("setByte(3, 8)", x.setByte(3, 8), true);
        dueBytes(x, 9, 2, 3, 8);
    }

    private static void setByteLowestBits() {
        int[] given = {0, 255, 256, 257, -1, -256, Integer.MIN_VALUE, Integer.MAX_VALUE, 1 << 8 | 66};
        int[] want = {0, 255, 0, 1, 255, 0, 0, 255, 66};
        for (int k = 0; k < 9; k++) {
            for (int i = 0; i < given.length; i++) {
                DeltaRows x = withBytes(90, 91, 92, 93, 94, 95, 96, 97, 98);
                due("setByte(" + k + ", " + given[i] + ")", x.setByte(k, given[i]), true);
                int[] all = {90, 91, 92, 93, 94, 95, 96, 97, 98};
                all[k] = want[i];
                dueBytes(x, all);
            }
        }
    }

    private static void appendBehind() {
        DeltaRows x = withBytes(1, 2, 3);
        x.cut(1);
        due("append(9)", x.append(9), true);
        dueBytes(x, 1, 9);
        x.put(-1);
        due("write()", x.write(), 2);
        due("append(7)", x.append(7), true);
        dueBytes(x, 1, 1, 7);
        dueRow(x, -1);
    }

    private static void cutRefused() {
        DeltaRows x = new DeltaRows();
        due("cut(0) of none", x.cut(0), true);
        due("cut(1) of none", x.cut(1), false);
        due("cut(-1) of none", x.cut(-1), false);
        x = withBytes(1, 2, 3);
        for (int n : WRONG_PLACES) {
            due("cut(" + n + ")", x.cut(n), false);
        }
        due("cut(4)", x.cut(4), false);
        dueBytes(x, 1, 2, 3);
        due("cut(3)", x.cut(3), true);
        dueBytes(x, 1, 2, 3);
        due("cut(2)", x.cut(2), true);
        dueBytes(x, 1, 2);
        due("cut(3) of two", x.cut(3), false);
        due("cut(0)", x.cut(0), true);
        dueBytes(x);
    }

    private static void blocksOfLatest() {
        DeltaRows x = new DeltaRows();
        due("blocks() of nothing", x.blocks(), 0);
        x.put(7);
        x.put(-8);
        x.put(1);
        due("blocks() before a write", x.blocks(), 0);
        refill(x, 1);
        due("read()", x.read(), CUT);
        due("blocks() after a fault alone", x.blocks(), 0);
        x.write();
        dueBlocksOfThree(x);
        x.put(4);
        x.setByte(3, 60);
        x.append(1);
        dueBlocksOfThree(x);
        due("read()", x.read(), CUT);
        dueBlocksOfThree(x);
        x.clear();
        x.cut(0);
        dueBlocksOfThree(x);
        due("read()", x.read(), CUT);
        dueBlocksOfThree(x);
        refill(x, 1, 0);
        due("read() of one", x.read(), 0);
        due("blocks() of one read", x.blocks(), 0);
        due("least(0) of one read", x.least(0), 0);
        due("width(0, 0) of one read", x.width(0, 0), NONE);
        due("start(0, 0) of one read", x.start(0, 0), NONE);
    }

    /** A fault in a later block leaves what the earlier blocks of the latest code had. */
    private static void blocksAfterLateFault() {
        DeltaRows x = withBytes(twoBlocks().bytes);
        due("read()", x.read(), 0);
        dueTwoBlocks(x);
        refill(x, 66, 0, 14, 1, 1, 1, 1, 0, 0, 0, 0, 0, 0, 0, 0, 14, 9, 0, 0, 65);
        due("read()", x.read(), BITS);
        dueTwoBlocks(x);
        refill(x, 66, 0, 14, 1, 1, 1, 1, 0, 0, 0, 0, 0, 0, 0, 0, 14, 0, 0, 0, 0, 0);
        due("read()", x.read(), MORE);
        dueTwoBlocks(x);
    }

    private static void dueTwoBlocks(DeltaRows x) {
        int[] widths = {1, 0, 9, 2, 3, 0, 0, 0};
        int[] starts = {9, 11, 11, 29, 47, 53, 53, 53};
        due("blocks()", x.blocks(), 2);
        due("least(0)", x.least(0), -70);
        due("least(1)", x.least(1), MIN);
        for (int i = 0; i < 8; i++) {
            due("width(" + i / 4 + ", " + i % 4 + ")", x.width(i / 4, i % 4), widths[i]);
            due("start(" + i / 4 + ", " + i % 4 + ")", x.start(i / 4, i % 4), starts[i]);
        }
    }

    private static void blocksOfFullRow() {
        DeltaRows x = having(2000);
        due("blocks() of 2000", x.blocks(), 32);
        due("least(31)", x.least(31), 1);
        due("least(32)", x.least(32), 0);
        due("width(31, 3)", x.width(31, 3), 0);
        due("width(32, 0)", x.width(32, 0), NONE);
        due("start(31, 0)", x.start(31, 0), 163);
        due("start(32, 0)", x.start(32, 0), NONE);
        x.write();
        due("blocks() of 2000 written", x.blocks(), 32);
        due("start(31, 3)", x.start(31, 3), 163);
        due("blocks() of 1985", having(1985).blocks(), 31);
        due("blocks() of 1986", having(1986).blocks(), 32);
    }

    private static void leastWithoutSuch() {
        DeltaRows x = new DeltaRows();
        due("least(0) of nothing", x.least(0), 0);
        x = withBytes(twoBlocks().bytes);
        due("read()", x.read(), 0);
        for (int block : WRONG_PLACES) {
            due("least(" + block + ")", x.least(block), 0);
        }
        for (int block = 2; block < 40; block++) {
            due("least(" + block + ")", x.least(block), 0);
        }
        due("least(0)", x.least(0), -70);
        due("least(1)", x.least(1), MIN);
        // Read more than once, so that no room inside is left that has not been used.
        for (int i = 0; i < 3; i++) {
            due("read()", x.read(), 0);
        }
        refill(x, 2, 0, 2, 0, 0, 0, 0);
        due("read()", x.read(), 0);
        due("least(0)", x.least(0), 1);
        due("least(1), one that was", x.least(1), 0);
        x = having(70);
        x.write();
        due("least(1)", x.least(1), 1);
        x.clear();
        putAll(x, 5, 7);
        x.write();
        due("least(0)", x.least(0), 2);
        due("least(1), one that was", x.least(1), 0);
        x.clear();
        x.write();
        due("least(0), one that was", x.least(0), 0);
    }

    private static void dueNoPart(DeltaRows x, int block, int part) {
        due("width(" + block + ", " + part + ")", x.width(block, part), NONE);
        due("start(" + block + ", " + part + ")", x.start(block, part), NONE);
    }

    private static void partWithoutSuch() {
        dueNoPart(new DeltaRows(), 0, 0);
        DeltaRows x = withBytes(twoBlocks().bytes);
        due("read()", x.read(), 0);
        for (int wrong : WRONG_PLACES) {
            dueNoPart(x, wrong, 0);
            dueNoPart(x, 0, wrong);
            dueNoPart(x, wrong, wrong);
        }
        for (int block = -1; block < 3; block++) {
            dueNoPart(x, block, 4);
            dueNoPart(x, block, -1);
            dueNoPart(x, block, 5);
            dueNoPart(x, block, -4);
        }
        for (int part = 0; part < 4; part++) {
            dueNoPart(x, 2, part);
            dueNoPart(x, 31, part);
            dueNoPart(x, 32, part);
            dueNoPart(x, -1, part);
        }
        dueTwoBlocks(x);
        due("read()", x.read(), 0);
        due("write()", x.write(), 53);
        x.clear();
        putAll(x, 5, 7);
        x.write();
        for (int part = 0; part < 4; part++) {
            dueNoPart(x, 1, part);
        }
        x.clear();
        x.write();
        dueNoPart(x, 0, 0);
    }

    private static void startOfEmptyParts() {
        // Parts with no bytes: one of width 0 between others, and those without differences.
        DeltaRows x = withBytes(twoBlocks().bytes);
        due("read()", x.read(), 0);
        dueTwoBlocks(x);
        due("write()", x.write(), 53);
        x = having(66);
        for (int part = 0; part < 4; part++) {
            due("start(0, " + part + ")", x.start(0, part), 7);
            due("start(1, " + part + ")", x.start(1, part), 12);
        }
        x.write();
        for (int part = 0; part < 4; part++) {
            due("start(0, " + part + ") written", x.start(0, part), 7);
            due("start(1, " + part + ") written", x.start(1, part), 12);
        }
    }

    private static void startStays() {
        DeltaRows x = withRow(7, -8, 1);
        x.write();
        x.cut(3);
        dueBlocksOfThree(x);
        x.cut(0);
        dueBlocksOfThree(x);
    }

    private static void whatItIs() {
        says("An object is used for at most 512 calls after it has been made", BoundaryTest::lastOf512Calls);
    }

    private static void termsOfRowAndBytes() {
        says("THE ROW has at most 2000 longs", BoundaryTest::rowLimit);
        says("THE ROW has at most 2000 longs: the largest code", BoundaryTest::largestCode);
        says("there are at most 20000 BYTES", BoundaryTest::byteLimit);
        says("there are at most 20000 BYTES: read", BoundaryTest::readAtByteLimit);
        says("BYTES (0 .. 255)", BoundaryTest::byteRange);
        says("Both are empty at first.", BoundaryTest::emptyAtFirst);
        says("seven bits a byte, the lowest ones first; all bytes but the last one have 128 more",
                BoundaryTest::varintLengths);
        says("(the last one is 0) .. it is alone", BoundaryTest::varintZeroAlone);
        says("the last one isn't 0, unless it is alone", BoundaryTest::varintZeroLast);
        says("at most ten bytes, the tenth at most 1", BoundaryTest::varintTenBytes);
        says("ZIGZAG of a long v: 2 v, or, if v is below 0, - 2 v - 1", BoundaryTest::zigzagEdges);
    }

    private static void termsOfCode() {
        says("VARINT n; if n is above 0, the VARINT of the ZIGZAG of the first one", BoundaryTest::codeOfFew);
        says("each of the others less the one before it, modulo 2 to the 64", BoundaryTest::differencesWrap);
        says("in BLOCKS of 64, the last block of those that are left", BoundaryTest::blocksOf64);
        says("its LEAST difference (with signs)", BoundaryTest::leastWithSigns);
        says("its four PARTS: sixteen differences each, as far as there are", BoundaryTest::partsOfSixteen);
        says("of each difference, less the LEAST one (modulo 2 to the 64)", BoundaryTest::lessTheLeastWraps);
        says("one behind the other, each with its lowest bit first", BoundaryTest::bitsInOrder);
        says("A part has 2 WIDTH bytes", BoundaryTest::partBytes);
        says("bits that are left of them (of a part with less than sixteen) are 0", BoundaryTest::leftBitsAreZero);
        says("The WIDTH of a part without differences is 0.", BoundaryTest::widthWithoutDifferences);
        says("WRITTEN, WIDTHS are as little as can be.", BoundaryTest::widthsAsLittleAsCanBe);
    }

    private static void termsOfRead() {
        says("one behind the other, four WIDTHS before the parts; the first FAULT", BoundaryTest::firstFaultIsTold);
        says("1 CUT: they end where one more is to come; its PLACE is how many there are", BoundaryTest::cutAnywhere);
        says("(all of a part's are to come at once)", BoundaryTest::partsComeAtOnce);
        says("2 VARINT: one that isn't as told; where it begins", BoundaryTest::varintPlaces);
        says("4 MANY: n is above 2000; 0", BoundaryTest::manyLongs);
        says("5 BITS: a WIDTH above 64: where it is", BoundaryTest::widthAbove64);
        says("5 BITS: or not 0 without differences: where it is", BoundaryTest::widthNotZeroWithoutDifferences);
        says("5 BITS: bits that are left aren't 0: where the part begins", BoundaryTest::leftBitsNotZero);
        says("6 MORE: bytes behind the end: where that is", BoundaryTest::moreBytes);
        says("0: none", BoundaryTest::noFault);
        says("(WIDTHS may be more than they must, the LEAST one less.)", BoundaryTest::moreThanTheyMust);
    }

    private static void promisesOfRow() {
        says("1: Nothing.", BoundaryTest::newObject);
        says("2: A long comes behind the row", BoundaryTest::putTakesAll);
        says("2: false if it has 2000", BoundaryTest::putRefused);
        says("3: The row is empty.", BoundaryTest::clearEmpties);
        says("4: How many longs the row has.", BoundaryTest::countsLongs);
        says("5: 0 if there is none such", BoundaryTest::getWithoutSuch);
        says("6: BYTES become the row's CODE, WRITTEN: how many.", BoundaryTest::writeReplaces);
        says("7: without one the row is what they tell", BoundaryTest::readTells);
        says("7: else it stays", BoundaryTest::readRefused);
        says("8: NONE if it had none, or there was no read", BoundaryTest::placeNone);
    }

    private static void promisesOfBytes() {
        says("9: How many BYTES there are.", BoundaryTest::sizes);
        says("10: NONE if there is none such", BoundaryTest::byteAtWithoutSuch);
        says("11: A byte becomes another one (its lowest eight bits)", BoundaryTest::setByteLowestBits);
        says("11: false if there is none such", BoundaryTest::setByteRefused);
        says("12: A byte comes behind the others", BoundaryTest::appendBehind);
        says("12: false if there are 20000", BoundaryTest::byteLimit);
        says("13: false if there are not so many, or n is below 0", BoundaryTest::cutRefused);
    }

    private static void promisesOfBlocks() {
        says("14: latest written, or read without a fault; 0 if nothing was", BoundaryTest::blocksOfLatest);
        says("14: or read without a fault", BoundaryTest::blocksAfterLateFault);
        says("14: How many BLOCKS: of a full row", BoundaryTest::blocksOfFullRow);
        says("15: 0 if there is none such", BoundaryTest::leastWithoutSuch);
        says("16, 17: a part 0 .. 3 of such a block; NONE if there is none such", BoundaryTest::partWithoutSuch);
        says("17: (also of one with no bytes)", BoundaryTest::startOfEmptyParts);
        says("17: Where the first byte of a part of such a block was", BoundaryTest::startStays);
    }

    public static void main(String[] args) {
        whatItIs();
        termsOfRowAndBytes();
        termsOfCode();
        termsOfRead();
        promisesOfRow();
        promisesOfBytes();
        promisesOfBlocks();
        System.out.println(wrong == 0 ? "all answers are as due" : wrong + " answers are not as due");
        if (wrong != 0) {
            System.exit(1);
        }
    }
}
