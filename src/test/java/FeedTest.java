/** Promise 2: twenty bytes go behind the row, at most 1000 in all. */
public final class FeedTest {
    public static void main(String[] args) {
        Check check = new Check();
        ordersBytes(check);
        goesBehindWhatStays(check);
        fillsTheRow(check);
        refusesWhatDoesNotFit(check);
        check.finish();
    }

    private static void ordersBytes(Check check) {
        GroupedNumbers x = new GroupedNumbers();
        check.due("feed", x.feed(0x01020304, 0x05060708, 0x090a0b0c, 0x0d0e0f10, 0x11121314), 20);
        for (int i = 0; i < 20; i++) {
            check.reads(x, 0, i, 1, i + 1);
        }
        check.refusesRead(x, 0, 20, -1);
        GroupedNumbers high = new GroupedNumbers();
        check.due("feed of set high bits", high.feed(0xff7fff7f, 0x80008000, 0x7f7f7f7f, -1, Integer.MIN_VALUE), 20);
        check.reads(high, 0, 0, 2, 16383);
        check.reads(high, 0, 4, 2, 0);
        check.reads(high, 0, 8, 1, 127);
        check.refusesRead(high, 0, 12, -1);
        check.reads(high, 0, 16, 2, 0);
    }

    private static void goesBehindWhatStays(Check check) {
        GroupedNumbers x = new GroupedNumbers();
        check.due("feed", x.feed(0x01010101, 0x01010101, 0x01010101, 0x01010101, 0x01010101), 20);
        check.due("end(3)", x.end(3), 3);
        check.due("feed", x.feed(0x02020202, 0x02020202, 0x02020202, 0x02020202, 0x02020202), 23);
        check.reads(x, 0, 2, 1, 1);
        check.reads(x, 0, 3, 1, 2);
        check.reads(x, 0, 22, 1, 2);
        check.refusesRead(x, 0, 23, -1);
    }

    private static void fillsTheRow(Check check) {
        GroupedNumbers x = new GroupedNumbers();
        for (int i = 1; i <= 50; i++) {
            check.due("feed " + i, x.feed(i, 0, 0, 0, i), 20 * i);
        }
        check.due("feed 51", x.feed(-1, -1, -1, -1, -1), -1);
        check.due("end(1001)", x.end(1001), -1);
        check.reads(x, 0, 999, 1, 50);
        check.reads(x, 0, 983, 1, 50);
        check.reads(x, 0, 979, 1, 49);
        check.reads(x, 0, 3, 1, 1);
        check.refusesRead(x, 0, 1000, -1);
        check.refusesRead(x, 0, 1001, -2);
    }

    private static void refusesWhatDoesNotFit(Check check) {
        GroupedNumbers x = new GroupedNumbers();
        for (int i = 1; i <= 50; i++) {
            check.due("feed " + i, x.feed(0, 0, 0, 0, 0), 20 * i);
        }
        check.due("end(981)", x.end(981), 981);
        check.due("feed behind 981", x.feed(-1, -1, -1, -1, -1), -1);
        check.due("end(982) after a refused feed", x.end(982), -1);
        check.reads(x, 0, 980, 1, 0);
        check.due("end(980)", x.end(980), 980);
        check.due("feed behind 980", x.feed(0x03030303, 0, 0, 0, 0x04040404), 1000);
        check.reads(x, 0, 980, 1, 3);
        check.reads(x, 0, 999, 1, 4);
    }
}
