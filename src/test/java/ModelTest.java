import java.math.BigInteger;
import java.util.ArrayList;
import java.util.List;

/**
 * All promises together: long runs of mixed calls, each answer held against a slow model that is
 * written from the document with other means (lists and BigInteger).
 */
public final class ModelTest {
    private static final int RUNS = 4000;
    private static final int CALLS = 512;
    private static final int[] EDGE_BYTES = {0, 1, 7, 8, 15, 16, 63, 64, 119, 120, 126, 127, 128, 255};
    private static final long[] EDGE_NUMBERS = {0, 1, -1, 4294967295L, 4294967296L, 2147483647L, 2147483648L,
        -2147483648L, -2147483649L, Long.MIN_VALUE, Long.MAX_VALUE, 1L << 62, -(1L << 62) - 1};

    private final Check check;
    private final GroupedNumbers x = new GroupedNumbers();
    private final List<Integer> row = new ArrayList<>();
    private final List<Integer> output = new ArrayList<>();
    private BigInteger value = BigInteger.ZERO;
    private long seed;
    private int calls = 0;

    private ModelTest(Check check, long seed) {
        this.check = check;
        this.seed = seed;
    }

    public static void main(String[] args) {
        Check check = new Check();
        for (int run = 0; run < RUNS; run++) {
            new ModelTest(check, run).runCalls(run % 3);
        }
        check.finish();
    }

    // A step makes two calls at most, and the document promises nothing beyond call 512.
    private void runCalls(int weight) {
        while (calls < CALLS - 1) {
            calls++;
            int pick = below(200);
            if (pick == 0) {
                x.clear();
                row.clear();
                output.clear();
            } else if (pick < 30 + 30 * weight) {
                feed();
            } else if (pick < 35 + 30 * weight) {
                end();
            } else if (pick < 70 + 40 * weight) {
                write();
            } else if (pick < 80 + 40 * weight) {
                int i = below(10) == 0 ? anyInt() : below(output.size() + 2) - 1;
                check.due("at(" + i + ")", x.at(i), i >= 0 && i < output.size() ? output.get(i) : -1);
            } else {
                read();
            }
            lookAtState();
        }
    }

    private void lookAtState() {
        int pick = below(4);
        if (pick < 2) {
            calls++;
        }
        if (pick == 0) {
            check.due("value()", x.value(), value.longValueExact());
        } else if (pick == 1) {
            check.due("size()", x.size(), output.size());
        }
    }

    private int below(int bound) {
        seed = seed * 6364136223846793005L + 1442695040888963407L;
        return (int) Long.remainderUnsigned(seed >>> 33, bound);
    }

    private int anyInt() {
        return below(65536) << 16 | below(65536);
    }

    private int anyHow() {
        return below(20) == 0 ? anyInt() : below(40) == 0 ? below(5) - 1 : below(3);
    }

    private int anyByte() {
        int pick = below(3);
        return pick == 0 ? EDGE_BYTES[below(EDGE_BYTES.length)] : pick == 1 ? 128 + below(128) : below(256);
    }

    private void feed() {
        int[] words = new int[5];
        List<Integer> bytes = new ArrayList<>();
        boolean zeroes = below(3) == 0;
        for (int i = 0; i < 20; i++) {
            int b = zeroes ? 128 : anyByte();
            if (zeroes && below(9) == 0) {
                b = EDGE_BYTES[below(EDGE_BYTES.length)];
            }
            bytes.add(b);
            words[i / 4] = words[i / 4] * 256 + b;
        }
        int due = -1;
        if (row.size() + 20 <= 1000) {
            row.addAll(bytes);
            due = row.size();
        }
        check.due("feed", x.feed(words[0], words[1], words[2], words[3], words[4]), due);
    }

    private void end() {
        int n = below(10) == 0 ? anyInt() : row.size() + 2 - below(40);
        int due = -1;
        if (n >= 0 && n <= row.size()) {
            row.subList(n, row.size()).clear();
            due = n;
        }
        check.due("end(" + n + ")", x.end(n), due);
    }

    private void read() {
        int how = anyHow();
        int at = below(20) == 0 ? anyInt() : below(row.size() + 3) - 1;
        check.due("read(" + how + ", " + at + ")", x.read(how, at), modelRead(how, at));
    }

    private int modelRead(int how, int at) {
        if (how < 0 || how > 2 || at < 0 || at > row.size()) {
            return -2;
        }
        BigInteger sum = BigInteger.ZERO;
        BigInteger unit = BigInteger.ONE;
        int most = how == 2 ? 10 : 5;
        for (int i = 0; i < most && at + i < row.size(); i++) {
            int b = row.get(at + i);
            sum = sum.add(unit.multiply(BigInteger.valueOf(b % 128)));
            unit = unit.shiftLeft(7);
            if (b < 128) {
                BigInteger number = how != 0 && b >= 64 ? sum.subtract(unit) : sum;
                if (!inRange(how, number)) {
                    return -1;
                }
                value = number;
                return i + 1;
            }
        }
        return -1;
    }

    private static boolean inRange(int how, BigInteger number) {
        if (how == 0) {
            return number.signum() >= 0 && number.bitLength() <= 32;
        }
        return number.bitLength() <= (how == 1 ? 31 : 63);
    }

    private void write() {
        int how = anyHow();
        long v = below(4) == 0 ? EDGE_NUMBERS[below(EDGE_NUMBERS.length)]
            : ((long) anyInt() << 32 | anyInt() & 4294967295L) >> below(64);
        if (below(3) == 0) {
            v &= 4294967295L;
        }
        check.due("write(" + how + ", " + v + ")", x.write(how, v), modelWrite(how, BigInteger.valueOf(v)));
    }

    private int modelWrite(int how, BigInteger v) {
        if (how < 0 || how > 2) {
            return -2;
        }
        if (!inRange(how, v)) {
            return -1;
        }
        int bits = how == 0 ? Math.max(1, v.bitLength()) : v.bitLength() + 1;
        int count = (bits + 6) / 7;
        if (output.size() + count > 1000) {
            return -2;
        }
        for (int i = 0; i < count; i++) {
            int group = v.shiftRight(7 * i).mod(BigInteger.valueOf(128)).intValue();
            output.add(i + 1 < count ? group + 128 : group);
        }
        return count;
    }
}
