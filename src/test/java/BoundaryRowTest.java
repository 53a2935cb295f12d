/** The boundary cases of the row: new, fed, full, ended and cleared (promises 1, 2, 3 and 9). */
public final class BoundaryRowTest {
    private static final Check check = new Check();

    public static void main(String[] args) {
        emptyAtFirst();
        highestByteFirst();
        behindTheRow();
        moreThan1000();
        firstBytesStay();
        endBelowZero();
        endAboveTheRow();
        emptyAfterClear();
        check.finish();
    }

    private static void emptyAtFirst() {
        check.sentence("Promise 1", "An empty row");
        GroupedNumbers x = new GroupedNumbers();
        isEmptyRow(x);
        check.due("the first feed", x.feed(0, 0, 0, 0, 0), 20);
    }

    private static void highestByteFirst() {
        check.sentence("Promise 2", "Twenty bytes, the highest of a first, then b, c, d, e");
        GroupedNumbers x = new GroupedNumbers();
        check.due("feed", x.feed(0x01020304, 0x05060708, 0x090a0b0c, 0x0d0e0f10, 0x11121314), 20);
        for (int i = 0; i < 20; i++) {
            check.reads(x, 0, i, 1, i + 1);
        }
        // The highest bit of an int is the 128 of its first byte, and no sign of the bytes behind it.
        GroupedNumbers high = new GroupedNumbers();
        check.due("feed", high.feed(0x80000000, 0x7fffffff, 0x7f80007f, 0xff00ff00, 0xffffff7f), 20);
        check.reads(high, 0, 0, 2, 0);
        check.reads(high, 0, 4, 1, 127);
        check.reads(high, 0, 5, 4, 268435455);
        check.reads(high, 0, 9, 2, 0);
        check.reads(high, 0, 12, 2, 127);
        check.reads(high, 0, 16, 4, 268435455);
    }

    private static void behindTheRow() {
        check.sentence("Promise 2", "go behind the row: how many it has then");
        for (int length : new int[] {0, 1, 19, 20, 21, 979, 980}) {
            GroupedNumbers x = check.withRowOfLength(length);
            check.due("feed behind " + length, x.feed(0x55000000, 0, 0, 0, 0x56), length + 20);
            if (length > 0) {
                check.reads(x, 0, length - 1, 1, (length - 1) % 128);
            }
            check.reads(x, 0, length, 1, 0x55);
            check.reads(x, 0, length + 19, 1, 0x56);
            check.rowHas(x, length + 20);
        }
    }

    private static void moreThan1000() {
        check.sentence("Promise 2", "-1 if there would be more than 1000");
        for (int length = 960; length <= 1000; length++) {
            GroupedNumbers x = check.withRowOfLength(length);
            int due = length <= 980 ? length + 20 : -1;
            check.due("feed behind " + length, x.feed(-1, -1, -1, -1, -1), due);
            check.rowHas(x, length <= 980 ? length + 20 : length);
        }
        GroupedNumbers full = check.withRowOfLength(1000);
        check.due("feed to a full row", full.feed(0, 0, 0, 0, 0), -1);
        check.due("feed to a full row again", full.feed(0, 0, 0, 0, 0), -1);
        check.due("end(980)", full.end(980), 980);
        check.due("feed when there is room again", full.feed(0, 0, 0, 0, 0), 1000);
    }

    private static void firstBytesStay() {
        check.sentence("Promise 3", "Only the first n bytes of the row stay: n");
        for (int length : new int[] {0, 1, 20, 999, 1000}) {
            for (int n : new int[] {0, 1, length - 1, length}) {
                if (n >= 0 && n <= length) {
                    staysWithin(length, n);
                }
            }
        }
    }

    private static void staysWithin(int length, int n) {
        GroupedNumbers x = check.withRowOfLength(length);
        check.due("end(" + n + ") of a row of " + length, x.end(n), n);
        if (n > 0) {
            check.reads(x, 0, 0, 1, 0);
            check.reads(x, 0, n - 1, 1, (n - 1) % 128);
        }
        check.refusesRead(x, 0, n, -1);
        check.refusesRead(x, 0, n + 1, -2);
        check.rowHas(x, n);
    }

    private static void endBelowZero() {
        check.sentence("Promise 3", "-1 if n is below 0");
        for (int length : new int[] {0, 1, 20, 1000}) {
            GroupedNumbers x = check.withRowOfLength(length);
            for (int n : new int[] {-1, -2, -20, -1000, Integer.MIN_VALUE}) {
                check.due("end(" + n + ")", x.end(n), -1);
                check.rowHas(x, length);
            }
        }
    }

    private static void endAboveTheRow() {
        check.sentence("Promise 3", "or it has not so many");
        for (int length : new int[] {0, 1, 19, 20, 999, 1000}) {
            GroupedNumbers x = check.withRowOfLength(length);
            for (int n : new int[] {length + 1, length + 2, length + 20, 1001, Integer.MAX_VALUE}) {
                check.due("end(" + n + ") of a row of " + length, x.end(n), -1);
                check.rowHas(x, length);
            }
        }
        GroupedNumbers shortened = check.withRowOfLength(20);
        check.due("end(5)", shortened.end(5), 5);
        check.due("end(6) when only 5 stayed", shortened.end(6), -1);
    }

    private static void emptyAfterClear() {
        check.sentence("Promise 9", "the row is empty");
        for (int length : new int[] {0, 1, 20, 1000}) {
            GroupedNumbers x = check.withRowOfLength(length);
            x.clear();
            isEmptyRow(x);
            check.due("feed after clear", x.feed(0x09000000, 0, 0, 0, 0), 20);
            check.reads(x, 0, 0, 1, 9);
            check.rowHas(x, 20);
        }
    }

    private static void isEmptyRow(GroupedNumbers x) {
        for (int how = 0; how <= 2; how++) {
            check.refusesRead(x, how, -1, -2);
            check.refusesRead(x, how, 0, -1);
            check.refusesRead(x, how, 1, -2);
        }
        check.due("end(1) of an empty row", x.end(1), -1);
        check.due("end(-1) of an empty row", x.end(-1), -1);
        check.due("end(0) of an empty row", x.end(0), 0);
    }
}
