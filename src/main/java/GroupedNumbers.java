/**
 * Reads and writes whole numbers in groups of seven bits, as binary formats have them: without
 * sign, and with the sign in the last group.
 */
public final class GroupedNumbers {
    private static final int U = 0;
    private static final int S = 1;
    private static final int L = 2;

    private static final int REFUSED = -1;
    private static final int WRONG_CALL = -2;
    private static final int NO_ROOM = -2;

    private static final int MOST_BYTES = 1000;
    private static final int BYTES_OF_A_FEED = 20;
    private static final int BYTES_OF_AN_INT = 4;

    private static final int GROUP_BITS = 7;
    private static final int GROUP_MASK = 127;
    private static final int MORE_FOLLOWS = 128;
    private static final int SIGN_OF_GROUP = 64;
    private static final int LONG_BITS = 64;
    private static final long GREATEST_U = 4294967295L;
    private static final long LEAST_S = -2147483648L;
    private static final long GREATEST_S = 2147483647L;

    private final int[] row;
    private int rowLength;
    private final int[] output;
    private int outputLength;
    private long lastRead;

    public GroupedNumbers() {
        row = new int[MOST_BYTES];
        rowLength = 0;
        output = new int[MOST_BYTES];
        outputLength = 0;
        lastRead = 0L;
    }

    public int feed(int a, int b, int c, int d, int e) {
        if (rowLength > MOST_BYTES - BYTES_OF_A_FEED) {
            return REFUSED;
        }
        appendToRow(a);
        appendToRow(b);
        appendToRow(c);
        appendToRow(d);
        appendToRow(e);
        return rowLength;
    }

    public int end(int n) {
        if (n < 0 || n > rowLength) {
            return REFUSED;
        }
        rowLength = n;
        return n;
    }

    public int read(int how, int at) {
        if (!isKind(how) || at < 0 || at > rowLength) {
            return WRONG_CALL;
        }
        int count = countGroups(at, mostGroups(how));
        if (count == 0) {
            return REFUSED;
        }
        int last = row[at + count - 1];
        if (count == mostGroups(how) && !mayEndLongest(how, last)) {
            return REFUSED;
        }
        long bits = joinGroups(at, count);
        lastRead = how == U ? bits : extendSign(bits, last, count);
        return count;
    }

    public long value() {
        return lastRead;
    }

    public int write(int how, long v) {
        if (!isKind(how)) {
            return WRONG_CALL;
        }
        // Looked at before the room, since only a number has a length that could lack room.
        if (!isNumberOf(how, v)) {
            return REFUSED;
        }
        int count = groupsNeeded(how, v);
        if (count > MOST_BYTES - outputLength) {
            return NO_ROOM;
        }
        appendToOutput(v, count);
        return count;
    }

    public int size() {
        return outputLength;
    }

    public int at(int i) {
        if (i < 0 || i >= outputLength) {
            return REFUSED;
        }
        return output[i];
    }

    // The value stays: the document names only the output and the row here.
    public void clear() {
        outputLength = 0;
        rowLength = 0;
    }

    private static boolean isKind(int how) {
        return how == U || how == S || how == L;
    }

    private static int mostGroups(int how) {
        return how == L ? 10 : 5;
    }

    // The bits of the last group that lie beyond the number's width must all be as its sign is.
    private static boolean mayEndLongest(int how, int last) {
        if (how == U) {
            return last <= 15;
        }
        if (how == S) {
            return last <= 7 || last >= 120;
        }
        return last == 0 || last == 127;
    }

    private static boolean isNumberOf(int how, long v) {
        if (how == U) {
            return v >= 0L && v <= GREATEST_U;
        }
        if (how == S) {
            return v >= LEAST_S && v <= GREATEST_S;
        }
        return true;
    }

    // The longest form is never looked at: it always suffices, and for L its shift would wrap round.
    private static int groupsNeeded(int how, long v) {
        int most = mostGroups(how);
        for (int count = 1; count < most; count++) {
            if (fitsGroups(how, v, count)) {
                return count;
            }
        }
        return most;
    }

    // A signed number needs one bit more, since its last group has to show the sign.
    private static boolean fitsGroups(int how, long v, int count) {
        if (how == U) {
            return v >> (GROUP_BITS * count) == 0L;
        }
        long rest = v >> (GROUP_BITS * count - 1);
        return rest == 0L || rest == -1L;
    }

    // A shift by 64 or more would wrap round, and then no bit is left to be filled.
    private static long extendSign(long bits, int last, int count) {
        int width = GROUP_BITS * count;
        if ((last & SIGN_OF_GROUP) == 0 || width >= LONG_BITS) {
            return bits;
        }
        return bits | (-1L << width);
    }

    // How many bytes the number at this place has; 0 if it does not end within the row or the limit.
    private int countGroups(int place, int most) {
        int there = Math.min(most, rowLength - place);
        for (int i = 0; i < there; i++) {
            if (row[place + i] < MORE_FOLLOWS) {
                return i + 1;
            }
        }
        return 0;
    }

    private long joinGroups(int place, int count) {
        long bits = 0L;
        for (int i = 0; i < count; i++) {
            long group = row[place + i] & GROUP_MASK;
            bits |= group << (GROUP_BITS * i);
        }
        return bits;
    }

    private void appendToRow(int word) {
        for (int i = 0; i < BYTES_OF_AN_INT; i++) {
            row[rowLength] = (word >>> (24 - 8 * i)) & 255;
            rowLength++;
        }
    }

    private void appendToOutput(long v, int count) {
        for (int i = 0; i < count; i++) {
            int group = (int) (v >> (GROUP_BITS * i)) & GROUP_MASK;
            output[outputLength] = i < count - 1 ? group + MORE_FOLLOWS : group;
            outputLength++;
        }
    }
}
