import java.util.Arrays;

/** The boundary cases that the section 'Terms' names, sentence by sentence. */
public final class BoundaryTermsTest {
    private static final int U = 0;
    private static final int S = 1;
    private static final int L = 2;
    private static final Check check = new Check();

    public static void main(String[] args) {
        leastAndGreatestU();
        lastByteOfU();
        fifthByteOfU();
        leastAndGreatestS();
        signOfTheLastGroup();
        fifthByteOfS();
        leastAndGreatestL();
        tenthByteOfL();
        moreBytesThanNeeded();
        asFewAsPossible();
        rowOfAtMost1000();
        outputOfAtMost1000();
        lastOf512Calls();
        check.finish();
    }

    private static void leastAndGreatestU() {
        check.sentence("Terms", "U (how 0): a number from 0 to 4294967295");
        check.reads(check.withRow(0), U, 0, 1, 0);
        check.reads(check.withRow(255, 255, 255, 255, 15), U, 0, 5, 4294967295L);
        check.reads(check.withRow(128, 128, 128, 128, 8), U, 0, 5, 2147483648L);
        GroupedNumbers x = new GroupedNumbers();
        check.writes(x, U, 0, 0);
        check.writes(x, U, 4294967295L, 255, 255, 255, 255, 15);
        check.refusesWrite(x, U, -1, -1);
        check.refusesWrite(x, U, 4294967296L, -1);
    }

    private static void lastByteOfU() {
        check.sentence("Terms", "in groups of 7 bits, the lowest first, each but the last a byte with 128 added");
        GroupedNumbers x = new GroupedNumbers();
        check.writes(x, U, 127, 127);
        check.writes(x, U, 128, 128, 1);
        check.writes(x, U, 16383, 255, 127);
        check.reads(check.withRow(127, 1), U, 0, 1, 127);
        check.reads(check.withRow(128, 1), U, 0, 2, 128);
        check.reads(check.withRow(255, 127), U, 0, 2, 16383);
    }

    private static void fifthByteOfU() {
        check.sentence("Terms", "at most 5 bytes, the fifth at most 15");
        check.reads(check.withRow(129, 128, 128, 128, 0), U, 0, 5, 1);
        check.reads(check.withRow(129, 128, 128, 128, 15), U, 0, 5, 15 * 268435456L + 1);
        for (int notAllowed : new int[] {16, 64, 112, 120, 127}) {
            check.refusesRead(check.withRow(129, 128, 128, 128, notAllowed), U, 0, -1);
        }
        check.refusesRead(check.withRow(129, 128, 128, 128, 128, 0), U, 0, -1);
        check.refusesRead(check.withRow(129, 128, 128, 128, 143, 0), U, 0, -1);
        check.reads(check.withRow(129, 128, 128, 127), U, 0, 4, 127 * 2097152L + 1);
    }

    private static void leastAndGreatestS() {
        check.sentence("Terms", "S (how 1): an int likewise");
        check.reads(check.withRow(128, 128, 128, 128, 120), S, 0, 5, Integer.MIN_VALUE);
        check.reads(check.withRow(255, 255, 255, 255, 7), S, 0, 5, Integer.MAX_VALUE);
        GroupedNumbers x = new GroupedNumbers();
        check.writes(x, S, Integer.MIN_VALUE, 128, 128, 128, 128, 120);
        check.writes(x, S, Integer.MAX_VALUE, 255, 255, 255, 255, 7);
        check.refusesWrite(x, S, Integer.MIN_VALUE - 1L, -1);
        check.refusesWrite(x, S, Integer.MAX_VALUE + 1L, -1);
    }

    private static void signOfTheLastGroup() {
        check.sentence("Terms", "bit 6 of the last group being its sign, which all higher bits have");
        for (int bytes = 1; bytes <= 9; bytes++) {
            long unit = 1L << (7 * (bytes - 1));
            GroupedNumbers positive = zeroesThen(bytes, 63);
            GroupedNumbers negative = zeroesThen(bytes, 64);
            check.reads(positive, L, 0, bytes, 63 * unit);
            check.reads(negative, L, 0, bytes, -64 * unit);
            if (bytes <= 4) {
                check.reads(positive, S, 0, bytes, 63 * unit);
                check.reads(negative, S, 0, bytes, -64 * unit);
                check.reads(negative, U, 0, bytes, 64 * unit);
            }
        }
        check.reads(zeroesThen(5, 7), S, 0, 5, 7 * 268435456L);
        check.reads(zeroesThen(5, 120), S, 0, 5, -8 * 268435456L);
        check.reads(zeroesThen(10, 0), L, 0, 10, 0);
        check.reads(zeroesThen(10, 127), L, 0, 10, Long.MIN_VALUE);
        // Bit 6 of a group that is not the last one is no sign.
        check.reads(check.withRow(192, 0), S, 0, 2, 64);
        check.reads(check.withRow(192, 0), L, 0, 2, 64);
    }

    private static void fifthByteOfS() {
        check.sentence("Terms", "at most 5 bytes, the fifth 0 .. 7 or 120 .. 127");
        for (int allowed : new int[] {0, 1, 7}) {
            check.reads(check.withRow(129, 128, 128, 128, allowed), S, 0, 5, allowed * 268435456L + 1);
        }
        for (int allowed : new int[] {120, 121, 127}) {
            check.reads(check.withRow(129, 128, 128, 128, allowed), S, 0, 5, (allowed - 128) * 268435456L + 1);
        }
        for (int notAllowed : new int[] {8, 15, 16, 63, 64, 119}) {
            check.refusesRead(check.withRow(129, 128, 128, 128, notAllowed), S, 0, -1);
        }
        check.refusesRead(check.withRow(129, 128, 128, 128, 128, 0), S, 0, -1);
        check.refusesRead(check.withRow(129, 128, 128, 128, 255, 127), S, 0, -1);
        check.reads(check.withRow(129, 128, 128, 8), S, 0, 4, 8 * 2097152L + 1);
    }

    private static void leastAndGreatestL() {
        check.sentence("Terms", "L (how 2): a long likewise");
        check.reads(zeroesThen(10, 127), L, 0, 10, Long.MIN_VALUE);
        check.reads(check.withRow(255, 255, 255, 255, 255, 255, 255, 255, 255, 0), L, 0, 10, Long.MAX_VALUE);
        GroupedNumbers x = new GroupedNumbers();
        check.writes(x, L, Long.MIN_VALUE, 128, 128, 128, 128, 128, 128, 128, 128, 128, 127);
        check.writes(x, L, Long.MAX_VALUE, 255, 255, 255, 255, 255, 255, 255, 255, 255, 0);
    }

    private static void tenthByteOfL() {
        check.sentence("Terms", "at most 10 bytes, the tenth 0 or 127");
        check.reads(zeroesThen(10, 0), L, 0, 10, 0);
        check.reads(zeroesThen(10, 127), L, 0, 10, Long.MIN_VALUE);
        for (int notAllowed : new int[] {1, 2, 7, 63, 64, 120, 126}) {
            check.refusesRead(zeroesThen(10, notAllowed), L, 0, -1);
        }
        check.refusesRead(zeroesThen(11, 0), L, 0, -1);
        check.refusesRead(zeroesThen(11, 127), L, 0, -1);
        check.refusesRead(check.withRow(255, 255, 255, 255, 255, 255, 255, 255, 255, 255, 127), L, 0, -1);
        check.reads(zeroesThen(9, 1), L, 0, 9, 1L << 56);
        check.reads(zeroesThen(9, 126), L, 0, 9, -2L << 56);
    }

    private static void moreBytesThanNeeded() {
        check.sentence("Terms", "More bytes than needed are read");
        for (int how = U; how <= L; how++) {
            int most = how == L ? 10 : 5;
            for (int bytes = 1; bytes <= most; bytes++) {
                check.reads(zeroesThen(bytes, 0), how, 0, bytes, 0);
                if (bytes > 1) {
                    check.reads(oneThenZeroes(bytes), how, 0, bytes, 1);
                }
                if (how != U) {
                    check.reads(ones(bytes), how, 0, bytes, -1);
                }
            }
            check.refusesRead(zeroesThen(most + 1, 0), how, 0, -1);
        }
    }

    private static void asFewAsPossible() {
        check.sentence("Terms", "as few as possible are written");
        for (int bytes = 1; bytes <= 9; bytes++) {
            long half = 1L << (7 * bytes - 1);
            takesOneByteMore(L, half - 1, half, bytes);
            takesOneByteMore(L, -half, -half - 1, bytes);
            if (bytes <= 4) {
                takesOneByteMore(S, half - 1, half, bytes);
                takesOneByteMore(S, -half, -half - 1, bytes);
                takesOneByteMore(U, 2 * half - 1, 2 * half, bytes);
            }
        }
        for (int how = U; how <= L; how++) {
            check.writes(new GroupedNumbers(), how, 0, 0);
        }
        check.writes(new GroupedNumbers(), S, -1, 127);
        check.writes(new GroupedNumbers(), L, -1, 127);
    }

    private static void rowOfAtMost1000() {
        check.sentence("Terms", "THE ROW is what is read, at most 1000 bytes");
        GroupedNumbers x = check.withRowOfLength(1000);
        check.rowHas(x, 1000);
        check.reads(x, U, 0, 1, 0);
        check.reads(x, U, 999, 1, 999 % 128);
        check.due("feed to a row of 1000", x.feed(0, 0, 0, 0, 0), -1);
        check.rowHas(x, 1000);
        // What was written is not what is read.
        check.writes(x, U, 5, 5);
        check.reads(x, U, 0, 1, 0);
        check.rowHas(x, 1000);
    }

    private static void outputOfAtMost1000() {
        check.sentence("Terms", "THE OUTPUT is what was written, at most 1000 bytes");
        GroupedNumbers x = new GroupedNumbers();
        check.fillOutput(x, 1000);
        check.due("size() of a full output", x.size(), 1000);
        check.due("at(999) of a full output", x.at(999), 127);
        for (int how = U; how <= L; how++) {
            check.refusesWrite(x, how, 0, -2);
        }
        // What is fed is not what was written.
        check.due("feed", x.feed(-1, -1, -1, -1, -1), 20);
        check.due("size() after feed", x.size(), 1000);
        check.due("at(0) after feed", x.at(0), 128);
    }

    private static void lastOf512Calls() {
        check.sentence("What it is", "An object is used for at most 512 calls after it has been made");
        for (int last = 0; last < 6; last++) {
            GroupedNumbers x = new GroupedNumbers();
            check.due("feed", x.feed(0x01020384, 0x05060708, 0, 0, 0), 20);
            for (int call = 2; call <= 510; call++) {
                check.due("write at call " + call, x.write(U, call % 128), 1);
            }
            check.due("read at call 511", x.read(U, 3), 2);
            call512(x, last);
        }
    }

    private static void call512(GroupedNumbers x, int which) {
        switch (which) {
            case 0 -> check.due("value() at call 512", x.value(), 4 + 5 * 128);
            case 1 -> check.due("size() at call 512", x.size(), 509);
            case 2 -> check.due("at(508) at call 512", x.at(508), 510 % 128);
            case 3 -> check.due("write at call 512", x.write(L, Long.MIN_VALUE), 10);
            case 4 -> check.due("feed at call 512", x.feed(0, 0, 0, 0, 0), 40);
            default -> check.due("end(20) at call 512", x.end(20), 20);
        }
    }

    /** The greatest number of so many bytes (away from 0), and the next one, which needs one more. */
    private static void takesOneByteMore(int how, long longest, long next, int bytes) {
        GroupedNumbers x = new GroupedNumbers();
        check.due("write(" + how + ", " + longest + ")", x.write(how, longest), bytes);
        check.due("size()", x.size(), bytes);
        check.due("write(" + how + ", " + next + ")", x.write(how, next), bytes + 1);
        check.due("size()", x.size(), 2 * bytes + 1);
        for (int i = 0; i < 2 * bytes + 1; i++) {
            boolean isLast = i == bytes - 1 || i == 2 * bytes;
            check.due("byte " + i + " goes on", x.at(i) < 128 ? 0 : 1, isLast ? 0 : 1);
        }
    }

    private static GroupedNumbers zeroesThen(int bytes, int last) {
        int[] row = new int[bytes];
        Arrays.fill(row, 128);
        row[bytes - 1] = last;
        return check.withRow(row);
    }

    private static GroupedNumbers oneThenZeroes(int bytes) {
        int[] row = new int[bytes];
        Arrays.fill(row, 128);
        row[0] = 129;
        row[bytes - 1] = 0;
        return check.withRow(row);
    }

    private static GroupedNumbers ones(int bytes) {
        int[] row = new int[bytes];
        Arrays.fill(row, 255);
        row[bytes - 1] = 127;
        return check.withRow(row);
    }
}
