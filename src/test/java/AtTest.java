/** Promise 8: byte i of what was written; -1 if there is none. */
public final class AtTest {
    public static void main(String[] args) {
        Check check = new Check();
        GroupedNumbers x = new GroupedNumbers();
        int[] none = {-1, 3, 999, 1000, 1001, Integer.MIN_VALUE, Integer.MAX_VALUE};
        check.due("at(0) at first", x.at(0), -1);
        check.due("feed", x.feed(-1, -1, -1, -1, -1), 20);
        check.due("at(0) after feed", x.at(0), -1);
        check.due("write", x.write(0, 16383), 2);
        check.due("write", x.write(0, 9), 1);
        check.due("at(0)", x.at(0), 255);
        check.due("at(1)", x.at(1), 127);
        check.due("at(2)", x.at(2), 9);
        for (int i : none) {
            check.due("at(" + i + ")", x.at(i), -1);
        }
        x.clear();
        check.due("at(0) after clear", x.at(0), -1);
        check.due("write", x.write(1, -2), 1);
        check.due("at(0)", x.at(0), 126);
        check.due("at(1), left from before clear", x.at(1), -1);
        full(check);
        check.finish();
    }

    private static void full(Check check) {
        GroupedNumbers x = new GroupedNumbers();
        for (int i = 0; i < 200; i++) {
            check.due("write", x.write(0, 4026531840L + i % 128), 5);
        }
        for (int i : new int[] {0, 1, 7, 57, 127, 128, 199}) {
            check.due("at(" + 5 * i + ")", x.at(5 * i), 128 + i % 128);
            check.due("at(" + (5 * i + 3) + ")", x.at(5 * i + 3), 128);
            check.due("at(" + (5 * i + 4) + ")", x.at(5 * i + 4), 15);
        }
        check.due("at(1000)", x.at(1000), -1);
    }
}
