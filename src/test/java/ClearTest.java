/** Promise 9: nothing is written, the row is empty; the value is not named, so it stays. */
public final class ClearTest {
    public static void main(String[] args) {
        Check check = new Check();
        GroupedNumbers x = check.withRow(1, 2, 0x7f);
        check.reads(x, 1, 2, 1, -1);
        check.writes(x, 0, 300, 172, 2);
        x.clear();
        check.due("size()", x.size(), 0);
        check.due("at(0)", x.at(0), -1);
        check.due("value()", x.value(), -1);
        check.due("end(1)", x.end(1), -1);
        check.due("end(0)", x.end(0), 0);
        for (int how = 0; how <= 2; how++) {
            check.refusesRead(x, how, 0, -1);
            check.refusesRead(x, how, 1, -2);
        }
        check.feedBytes(x, 0, 11, 12);
        check.reads(x, 0, 0, 1, 11);
        check.writes(x, 0, 13, 13);
        x.clear();
        x.clear();
        check.due("size() after clear twice", x.size(), 0);
        roomIsBack(check);
        check.finish();
    }

    private static void roomIsBack(Check check) {
        GroupedNumbers x = new GroupedNumbers();
        for (int round = 0; round < 2; round++) {
            for (int i = 1; i <= 50; i++) {
                check.due("feed", x.feed(0, 0, 0, 0, 0), 20 * i);
            }
            check.due("feed to a full row", x.feed(0, 0, 0, 0, 0), -1);
            for (int i = 1; i <= 100; i++) {
                check.due("write", x.write(2, Long.MIN_VALUE), 10);
            }
            check.due("write to a full output", x.write(2, 0), -2);
            x.clear();
        }
        x = new GroupedNumbers();
        x.clear();
        check.due("value() of a new object after clear", x.value(), 0);
    }
}
