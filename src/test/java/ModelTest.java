import java.math.BigInteger;
import java.util.ArrayList;
import java.util.List;
import java.util.Random;

/**
 * Runs of calls, always the same ones, against a model that is written another way: it counts with
 * BigInteger, and holds bits as a list of booleans.
 */
public final class ModelTest {
    private static final BigInteger WRAP = BigInteger.ONE.shiftLeft(64);
    private static final int CALLS = 512;

    private static int wrong = 0;

    private static final class Fault extends Exception {
        private static final long serialVersionUID = 1;
        final int kind;
        final int place;

        Fault(int kind, int place) {
            this.kind = kind;
            this.place = place;
        }
    }

    private static final class Block {
        long least;
        final int[] widths = new int[4];
        final int[] starts = new int[4];
    }

    private static final class Model {
        List<Long> row = new ArrayList<>();
        List<Integer> bytes = new ArrayList<>();
        List<Block> blocks = new ArrayList<>();
        int place = -1;
        private int at;

        static BigInteger unsigned(long v) {
            return BigInteger.valueOf(v).mod(WRAP);
        }

        void writeVarint(BigInteger v) {
            BigInteger[] parts = v.divideAndRemainder(BigInteger.valueOf(128));
            boolean isLast = parts[0].signum() == 0;
            bytes.add(parts[1].intValue() + (isLast ? 0 : 128));
            if (!isLast) {
                writeVarint(parts[0]);
            }
        }

        void writeZigzag(long v) {
            BigInteger twice = BigInteger.valueOf(v).shiftLeft(1);
            writeVarint(v < 0 ? twice.negate().subtract(BigInteger.ONE) : twice);
        }

        int write() {
            bytes = new ArrayList<>();
            blocks = new ArrayList<>();
            writeVarint(BigInteger.valueOf(row.size()));
            if (!row.isEmpty()) {
                writeZigzag(row.get(0));
            }
            List<Long> differences = new ArrayList<>();
            for (int i = 1; i < row.size(); i++) {
                differences.add(row.get(i) - row.get(i - 1));
            }
            for (int i = 0; i < differences.size(); i += 64) {
                writeBlock(differences.subList(i, Math.min(i + 64, differences.size())));
            }
            return bytes.size();
        }

        void writeBlock(List<Long> differences) {
            Block block = new Block();
            blocks.add(block);
            block.least = differences.stream().min(Long::compare).get();
            writeZigzag(block.least);
            for (int i = 0; i < differences.size(); i++) {
                int width = unsigned(differences.get(i) - block.least).bitLength();
                block.widths[i / 16] = Math.max(block.widths[i / 16], width);
            }
            for (int width : block.widths) {
                bytes.add(width);
            }
            for (int part = 0; part < 4; part++) {
                block.starts[part] = bytes.size();
                List<Boolean> bits = new ArrayList<>();
                for (int i = 16 * part; i < 16 * part + 16; i++) {
                    BigInteger above = i < differences.size()
                            ? unsigned(differences.get(i) - block.least) : BigInteger.ZERO;
                    for (int b = 0; b < block.widths[part]; b++) {
                        bits.add(above.testBit(b));
                    }
                }
                for (int i = 0; i < bits.size(); i += 8) {
                    int whole = 0;
                    for (int b = 7; b >= 0; b--) {
                        whole = 2 * whole + (bits.get(i + b) ? 1 : 0);
                    }
                    bytes.add(whole);
                }
            }
        }

        int read() {
            at = 0;
            place = -1;
            try {
                List<Block> found = new ArrayList<>();
                List<Long> longs = readRow(found);
                row = longs;
                blocks = found;
                return 0;
            } catch (Fault fault) {
                place = fault.place;
                return fault.kind;
            }
        }

        List<Long> readRow(List<Block> found) throws Fault {
            BigInteger n = readVarint();
            if (n.compareTo(BigInteger.valueOf(2000)) > 0) {
                throw new Fault(4, 0);
            }
            List<Long> longs = new ArrayList<>();
            if (n.signum() > 0) {
                longs.add(readZigzag());
            }
            for (int left = n.intValue() - 1; left > 0; left -= 64) {
                found.add(readBlock(Math.min(left, 64), longs));
            }
            if (at < bytes.size()) {
                throw new Fault(6, at);
            }
            return longs;
        }

        Block readBlock(int differences, List<Long> longs) throws Fault {
            Block block = new Block();
            block.least = readZigzag();
            for (int part = 0; part < 4; part++) {
                block.widths[part] = readByte();
                if (block.widths[part] > (differences > 16 * part ? 64 : 0)) {
                    throw new Fault(5, at - 1);
                }
            }
            for (int part = 0; part < 4; part++) {
                block.starts[part] = at;
                BigInteger bits = BigInteger.ZERO;
                if (at + 2 * block.widths[part] > bytes.size()) {
                    throw new Fault(1, bytes.size());
                }
                for (int k = 0; k < 2 * block.widths[part]; k++) {
                    bits = bits.add(BigInteger.valueOf(readByte()).shiftLeft(8 * k));
                }
                BigInteger base = BigInteger.ONE.shiftLeft(block.widths[part]);
                for (int i = 16 * part; i < Math.min(differences, 16 * part + 16); i++) {
                    longs.add(longs.get(longs.size() - 1) + block.least + bits.mod(base).longValue());
                    bits = bits.divide(base);
                }
                if (bits.signum() != 0) {
                    throw new Fault(5, block.starts[part]);
                }
            }
            return block;
        }

        int readByte() throws Fault {
            if (at == bytes.size()) {
                throw new Fault(1, at);
            }
            return bytes.get(at++);
        }

        BigInteger readVarint() throws Fault {
            int begin = at;
            BigInteger v = BigInteger.ZERO;
            int last = 128;
            for (int i = 0; last >= 128; i++) {
                last = readByte();
                v = v.add(BigInteger.valueOf(last % 128).shiftLeft(7 * i));
                if (i == 9 && last > 1 || i > 0 && last == 0) {
                    throw new Fault(2, begin);
                }
            }
            return v;
        }

        long readZigzag() throws Fault {
            BigInteger z = readVarint();
            BigInteger half = z.shiftRight(1);
            return (z.testBit(0) ? half.negate().subtract(BigInteger.ONE) : half).longValueExact();
        }
    }

    private static final class Run {
        final int seed;
        final Random random;
        final DeltaRows x = new DeltaRows();
        final Model model = new Model();
        final int[] faults;
        int calls = 0;
        long latest = 0;

        Run(int seed, int[] faults) {
            this.seed = seed;
            this.random = new Random(seed);
            this.faults = faults;
        }

        void due(String what, long got, long want) {
            if (got != want && wrong++ < 40) {
                System.out.println("run " + seed + ": " + what + " answered " + got + ", due is " + want);
            }
        }

        void due(String what, boolean got, boolean want) {
            due(what, got ? 1 : 0, want ? 1 : 0);
        }

        void put(long v) {
            calls++;
            boolean fits = model.row.size() < 2000;
            due("put(" + v + ")", x.put(v), fits);
            if (fits) {
                model.row.add(v);
            }
        }

        void append(int v) {
            calls++;
            due("append(" + v + ")", x.append(v), true);
            model.bytes.add(v & 255);
        }

        void setByte(int k, int v) {
            calls++;
            boolean is = k >= 0 && k < model.bytes.size();
            due("setByte(" + k + ", " + v + ")", x.setByte(k, v), is);
            if (is) {
                model.bytes.set(k, v & 255);
            }
        }

        void cut(int n) {
            calls++;
            boolean can = n >= 0 && n <= model.bytes.size();
            due("cut(" + n + ")", x.cut(n), can);
            if (can) {
                model.bytes = new ArrayList<>(model.bytes.subList(0, n));
            }
        }

        void clear() {
            calls++;
            x.clear();
            model.row = new ArrayList<>();
        }

        void write() {
            calls++;
            due("write()", x.write(), model.write());
            compare();
        }

        void read() {
            calls++;
            int fault = model.read();
            faults[fault]++;
            due("read()", x.read(), fault);
            compare();
        }

        /** Looks at all that can be seen; these calls are beside the run's own ones. */
        void compare() {
            due("place()", x.place(), model.place);
            due("count()", x.count(), model.row.size());
            for (int i = 0; i < model.row.size(); i++) {
                due("get(" + i + ")", x.get(i), model.row.get(i));
            }
            due("size()", x.size(), model.bytes.size());
            for (int k = 0; k < model.bytes.size(); k++) {
                due("byteAt(" + k + ")", x.byteAt(k), model.bytes.get(k));
            }
            due("blocks()", x.blocks(), model.blocks.size());
            for (int b = 0; b < model.blocks.size(); b++) {
                Block block = model.blocks.get(b);
                due("least(" + b + ")", x.least(b), block.least);
                for (int part = 0; part < 4; part++) {
                    due("width(" + b + ", " + part + ")", x.width(b, part), block.widths[part]);
                    due("start(" + b + ", " + part + ")", x.start(b, part), block.starts[part]);
                }
            }
        }

        void putSome(int many) {
            int shift = random.nextInt(64);
            boolean isNear = random.nextBoolean();
            for (int i = 0; i < many; i++) {
                if (random.nextInt(20) == 0) {
                    shift = random.nextInt(64);
                }
                long some = random.nextLong() >> shift;
                latest = isNear ? latest + some : some;
                put(latest);
            }
        }

        /** Appends a code of many longs in few bytes; some of its differences go round. */
        void appendLargeCode() {
            cut(0);
            int n = 1500 + random.nextInt(501);
            append(n % 128 + 128);
            append(n / 128);
            append(random.nextInt(128));
            for (int left = n - 1; left > 0; left -= 64) {
                if (left >= 64 && random.nextInt(8) == 0) {
                    appendBlockThatGoesRound();
                } else {
                    append(random.nextInt(128));
                    for (int part = 0; part < 4; part++) {
                        append(0);
                    }
                }
            }
        }

        /** The least one is told as MAX, so that all differences with a bit are MIN. */
        void appendBlockThatGoesRound() {
            for (int b : new int[] {254, 255, 255, 255, 255, 255, 255, 255, 255, 1, 1, 0, 1, 0}) {
                append(b);
            }
            for (int k = 0; k < 4; k++) {
                append(random.nextInt());
            }
        }

        void change() {
            int size = model.bytes.size();
            int kind = random.nextInt(10);
            if (kind < 3 && size > 0) {
                setByte(random.nextInt(Math.min(size, 12)), random.nextInt());
            } else if (kind < 5 && size > 0) {
                setByte(random.nextInt(size), random.nextInt(3) == 0 ? random.nextInt(66) : random.nextInt());
            } else if (kind == 5 && size > 0) {
                cut(size - 1 - random.nextInt(Math.min(size, 4)));
            } else if (kind == 6) {
                append(random.nextInt(4) == 0 ? random.nextInt() : 0);
            } else if (kind == 7 && size > 0) {
                int k = random.nextInt(size);
                setByte(k, model.bytes.get(k) ^ 1 << random.nextInt(8));
            } else if (kind == 8) {
                setByte(random.nextInt(40000) - 10000, random.nextInt());
            } else {
                cut(random.nextInt(size + 3) - 1);
            }
        }

        void go() {
            while (calls < CALLS) {
                int kind = random.nextInt(12);
                if (kind == 0) {
                    appendLargeCode();
                    read();
                    putSome(random.nextInt(5));
                    write();
                } else if (kind == 1) {
                    clear();
                } else if (kind < 5) {
                    putSome(1 + random.nextInt(random.nextInt(4) == 0 ? 200 : 20));
                    write();
                } else if (kind < 8) {
                    write();
                    change();
                    read();
                } else if (kind == 8) {
                    write();
                    clear();
                    read();
                } else {
                    change();
                    read();
                }
            }
        }

        /** Each place of a code becomes each of some bytes, or is the end. */
        void spoilEverywhere() {
            putSome(2 + random.nextInt(100));
            write();
            List<Integer> code = model.bytes;
            for (int k = 0; k < Math.min(code.size(), 60); k++) {
                for (int v : new int[] {0, 1, 2, 64, 65, 127, 128, 129, 255}) {
                    setByte(k, v);
                    read();
                    model.write();
                    x.write();
                }
                cut(k);
                read();
                write();
            }
        }
    }

    /** The longest code there is, through write and read. */
    private static void largest(int[] faults) {
        Run run = new Run(-1, faults);
        long v = Long.MIN_VALUE;
        for (int i = 0; i < 2001; i++) {
            run.put(v);
            v += i % 2 == 0 ? Long.MIN_VALUE : Long.MAX_VALUE;
        }
        for (int i = 0; i < 2; i++) {
            run.write();
            run.read();
            run.append(0);
            run.read();
        }
        run.cut(run.x.size() - 2);
        run.read();
        run.write();
        run.due("size() of the longest code", run.x.size(), 16460);
    }

    public static void main(String[] args) {
        int[] faults = new int[7];
        for (int seed = 0; seed < 300; seed++) {
            new Run(seed, faults).go();
        }
        for (int seed = 1000; seed < 1020; seed++) {
            new Run(seed, faults).spoilEverywhere();
        }
        largest(faults);
        for (int kind : new int[] {0, 1, 2, 4, 5, 6}) {
            if (faults[kind] < 50) {
                wrong++;
                System.out.println("only " + faults[kind] + " reads had fault " + kind);
            }
        }
        System.out.println("reads by fault: " + java.util.Arrays.toString(faults));
        System.out.println(wrong == 0 ? "all answers are as due" : wrong + " answers are not as due");
        if (wrong != 0) {
            System.exit(1);
        }
    }
}
