/** Promise 5: the number read last; 0 at first. */
public final class ValueTest {
    public static void main(String[] args) {
        Check check = new Check();
        GroupedNumbers x = new GroupedNumbers();
        check.due("value() at first", x.value(), 0);
        check.feedBytes(x, 0, 0xff, 0xff, 0xff, 0xff, 0x0f, 0x80, 0x80, 0x80, 0x80, 0x78, 0x05);
        check.due("value() after feed", x.value(), 0);
        check.reads(x, 0, 0, 5, 4294967295L);
        check.due("value() again", x.value(), 4294967295L);
        check.reads(x, 1, 5, 5, -2147483648L);
        check.reads(x, 2, 0, 5, 4294967295L);
        check.reads(x, 0, 10, 1, 5);
        check.refusesRead(x, 0, 11, -1);
        check.refusesRead(x, 0, 12, -2);
        check.due("write", x.write(0, 99), 1);
        check.due("write refused", x.write(0, -1), -1);
        check.due("at", x.at(0), 99);
        check.due("end", x.end(0), 0);
        check.due("value() after all these", x.value(), 5);
        x.clear();
        check.due("value() after clear", x.value(), 5);
        check.finish();
    }
}
