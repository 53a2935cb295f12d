import java.util.Arrays;

/** The boundary cases of read and value (promises 1, 4, 5 and 9). */
public final class BoundaryReadTest {
    private static final int[] ROW_LENGTHS = {0, 1, 2, 20, 999, 1000};
    private static final Check check = new Check();

    public static void main(String[] args) {
        firstAndLastPlace();
        noneSuch();
        cutOffByTheRowsEnd();
        noKind();
        noPlace();
        placeBehindTheRow();
        numberReadLast();
        zeroAtFirst();
        check.finish();
    }

    private static void firstAndLastPlace() {
        check.sentence("Promise 4", "Reads a number from place at on: how many bytes it has");
        for (int length : ROW_LENGTHS) {
            GroupedNumbers x = check.withRowOfLength(length);
            for (int how = 0; how <= 2 && length > 0; how++) {
                check.reads(x, how, 0, 1, 0);
                int last = (length - 1) % 128;
                check.reads(x, how, length - 1, 1, how > 0 && last >= 64 ? last - 128 : last);
            }
        }
        // The longest number of each kind, just before the row's end.
        GroupedNumbers full = fullRowOfOnes(127);
        check.reads(full, 2, 990, 10, -1);
        check.reads(full, 1, 995, 5, -1);
        check.reads(full, 0, 996, 4, 268435455);
        check.reads(fullRowOfOnes(15), 0, 995, 5, 4294967295L);
    }

    private static void noneSuch() {
        check.sentence("Promise 4", "-1 if there is none such");
        int[] fifthNotAllowed = {16, 8, 128};
        int[] fifthAllowed = {15, 7, 127};
        for (int how = 0; how <= 2; how++) {
            check.refusesRead(check.withRow(255, 255, 255, 255, fifthNotAllowed[how]), how, 0, -1);
            check.due("read", check.withRow(255, 255, 255, 255, fifthAllowed[how]).read(how, 0), 5);
        }
        check.refusesRead(check.withRow(255, 255, 255, 255, 119), 1, 0, -1);
        check.reads(check.withRow(255, 255, 255, 255, 120), 1, 0, 5, -1879048193);
        check.refusesRead(check.withRow(255, 255, 255, 255, 255, 255, 255, 255, 255, 1), 2, 0, -1);
        check.refusesRead(check.withRow(255, 255, 255, 255, 255, 255, 255, 255, 255, 126), 2, 0, -1);
        check.due("read", check.withRow(255, 255, 255, 255, 255, 255, 255, 255, 255, 127).read(2, 0), 10);
        // Not even at a place in the middle of a full row, where bytes enough follow.
        GroupedNumbers full = fullRowOfOnes(127);
        for (int how = 0; how <= 2; how++) {
            check.refusesRead(full, how, 0, -1);
            check.refusesRead(full, how, 500, -1);
            check.refusesRead(full, how, how == 2 ? 989 : 994, -1);
        }
    }

    private static void cutOffByTheRowsEnd() {
        check.sentence("Promise 4", "(also one that the row's end cuts off)");
        int[] bytes = {129, 128, 128, 128, 128, 128, 128, 128, 128, 0};
        for (int how = 0; how <= 2; how++) {
            int most = how == 2 ? 10 : 5;
            for (int whole = 1; whole <= most; whole++) {
                int[] row = Arrays.copyOf(bytes, whole);
                row[whole - 1] = 0;
                GroupedNumbers x = check.withRow(row);
                check.due("read of " + whole + " bytes", x.read(how, 0), whole);
                for (int length = whole - 1; length >= 0; length--) {
                    check.due("end(" + length + ")", x.end(length), length);
                    check.refusesRead(x, how, 0, -1);
                }
            }
            fullRowCutsOff(how);
        }
    }

    private static void fullRowCutsOff(int how) {
        GroupedNumbers full = fullRowOfOnes(255);
        for (int at = 990; at <= 1000; at++) {
            check.refusesRead(full, how, at, -1);
        }
        // The byte that would end the number lies behind the row's new end.
        GroupedNumbers shortened = fullRowOfOnes(0);
        check.reads(shortened, how, 999, 1, 0);
        check.due("end(999)", shortened.end(999), 999);
        for (int at = 990; at <= 999; at++) {
            check.refusesRead(shortened, how, at, -1);
        }
    }

    private static void noKind() {
        check.sentence("Promise 4", "-2 if how is not 0 .. 2");
        for (int length : ROW_LENGTHS) {
            GroupedNumbers x = check.withRowOfLength(length);
            for (int how : new int[] {-1, 3, -2, 4, Integer.MIN_VALUE, Integer.MAX_VALUE}) {
                for (int at : new int[] {-1, 0, length, length + 1}) {
                    check.refusesRead(x, how, at, -2);
                }
            }
        }
        check.reads(check.withRow(1), 0, 0, 1, 1);
        check.reads(check.withRow(1), 2, 0, 1, 1);
    }

    private static void noPlace() {
        check.sentence("Promise 4", "or at not a place of the row");
        for (int length : ROW_LENGTHS) {
            GroupedNumbers x = check.withRowOfLength(length);
            for (int how = 0; how <= 2; how++) {
                check.refusesRead(x, how, -1, -2);
                check.refusesRead(x, how, Integer.MIN_VALUE, -2);
                check.refusesRead(x, how, length + 1, -2);
                check.refusesRead(x, how, length + 2, -2);
                check.refusesRead(x, how, 1001, -2);
                check.refusesRead(x, how, Integer.MAX_VALUE, -2);
            }
        }
    }

    private static void placeBehindTheRow() {
        check.sentence("Promise 4", "or the one behind it");
        for (int length : ROW_LENGTHS) {
            GroupedNumbers x = check.withRowOfLength(length);
            for (int how = 0; how <= 2; how++) {
                check.refusesRead(x, how, length, -1);
            }
            x.clear();
            for (int how = 0; how <= 2; how++) {
                check.refusesRead(x, how, 0, -1);
            }
        }
    }

    private static void numberReadLast() {
        check.sentence("Promise 5", "The number read last");
        GroupedNumbers x = check.withRow(5, 127, 255, 255, 255, 255, 16, 6, 255);
        check.reads(x, 0, 0, 1, 5);
        check.reads(x, 0, 1, 1, 127);
        check.reads(x, 1, 1, 1, -1);
        for (int how = 0; how <= 1; how++) {
            check.refusesRead(x, how, 2, -1);
        }
        for (int how = 0; how <= 2; how++) {
            check.refusesRead(x, how, 8, -1);
            check.refusesRead(x, how, 9, -1);
            check.refusesRead(x, how, 10, -2);
            check.refusesRead(x, how, -1, -2);
        }
        check.refusesRead(x, -1, 0, -2);
        check.refusesRead(x, 3, 0, -2);
        check.due("value() after refused reads", x.value(), -1);
        check.due("value() asked twice", x.value(), -1);
        check.reads(x, 2, 2, 5, 16 * 268435456L + 268435455);
        check.reads(x, 0, 7, 1, 6);
    }

    private static void zeroAtFirst() {
        check.sentence("Promise 5", "0 at first");
        GroupedNumbers x = new GroupedNumbers();
        check.due("value() at first", x.value(), 0);
        check.due("read of an empty row", x.read(0, 0), -1);
        check.due("read behind an empty row", x.read(0, 1), -2);
        check.due("value() after refused reads", x.value(), 0);
        check.due("feed", x.feed(-1, -1, -1, -1, -1), 20);
        check.due("read of no number", x.read(2, 0), -1);
        check.due("write", x.write(0, 9), 1);
        check.due("end", x.end(3), 3);
        x.clear();
        check.due("value() while nothing has been read", x.value(), 0);
    }

    /** A row of 1000 bytes, each 255 but the last. */
    private static GroupedNumbers fullRowOfOnes(int last) {
        int[] row = new int[1000];
        Arrays.fill(row, 255);
        row[999] = last;
        return check.withRow(row);
    }
}
