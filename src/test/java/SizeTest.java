/** Promise 7: how many bytes were written. */
public final class SizeTest {
    public static void main(String[] args) {
        Check check = new Check();
        GroupedNumbers x = new GroupedNumbers();
        check.due("size() at first", x.size(), 0);
        check.due("feed", x.feed(1, 2, 3, 4, 5), 20);
        check.due("size() after feed", x.size(), 0);
        check.due("write", x.write(0, 1), 1);
        check.due("size()", x.size(), 1);
        check.due("write", x.write(1, -65), 2);
        check.due("size()", x.size(), 3);
        check.due("write", x.write(2, Long.MIN_VALUE), 10);
        check.due("size()", x.size(), 13);
        check.due("write refused", x.write(0, -1), -1);
        check.due("write refused", x.write(5, 1), -2);
        check.due("read", x.read(0, 0), 1);
        check.due("end", x.end(0), 0);
        check.due("size() after what writes nothing", x.size(), 13);
        x.clear();
        check.due("size() after clear", x.size(), 0);
        for (int i = 1; i <= 200; i++) {
            check.due("write", x.write(0, 4294967295L), 5);
            check.due("size()", x.size(), 5 * i);
        }
        check.due("write without room", x.write(0, 0), -2);
        check.due("size() when full", x.size(), 1000);
        check.finish();
    }
}
