/** Promise 3: only the first n bytes of the row stay. */
public final class EndTest {
    public static void main(String[] args) {
        Check check = new Check();
        GroupedNumbers x = new GroupedNumbers();
        check.due("end(0) of an empty row", x.end(0), 0);
        check.due("end(1) of an empty row", x.end(1), -1);
        check.due("feed", x.feed(0x01020304, 0x05060708, 0x090a0b0c, 0x0d0e0f10, 0x11121314), 20);
        check.due("end(-1)", x.end(-1), -1);
        check.due("end(least)", x.end(Integer.MIN_VALUE), -1);
        check.due("end(21)", x.end(21), -1);
        check.due("end(greatest)", x.end(Integer.MAX_VALUE), -1);
        check.reads(x, 0, 19, 1, 20);
        check.due("end(20)", x.end(20), 20);
        check.reads(x, 0, 19, 1, 20);
        check.due("end(7)", x.end(7), 7);
        check.reads(x, 0, 0, 1, 1);
        check.reads(x, 0, 6, 1, 7);
        check.refusesRead(x, 0, 7, -1);
        check.refusesRead(x, 0, 8, -2);
        check.due("end(8)", x.end(8), -1);
        check.writes(x, 0, 77, 77);
        check.due("end(0)", x.end(0), 0);
        check.due("end(1)", x.end(1), -1);
        check.due("size() after end", x.size(), 1);
        check.due("at(0) after end", x.at(0), 77);
        check.due("value() after end", x.value(), 7);
        check.finish();
    }
}
