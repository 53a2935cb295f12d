/** Promise 1: an empty row, nothing written, the value 0. */
public final class NewObjectTest {
    public static void main(String[] args) {
        Check check = new Check();
        GroupedNumbers x = new GroupedNumbers();
        check.due("value()", x.value(), 0);
        check.due("size()", x.size(), 0);
        check.due("at(0)", x.at(0), -1);
        check.due("end(1)", x.end(1), -1);
        check.due("end(0)", x.end(0), 0);
        for (int how = 0; how <= 2; how++) {
            check.refusesRead(x, how, 0, -1);
            check.refusesRead(x, how, 1, -2);
        }
        check.due("feed", x.feed(0, 0, 0, 0, 0), 20);
        objectsShareNothing(check);
        check.finish();
    }

    private static void objectsShareNothing(Check check) {
        GroupedNumbers used = check.withRow(5);
        check.reads(used, 0, 0, 1, 5);
        check.writes(used, 0, 7, 7);
        GroupedNumbers fresh = new GroupedNumbers();
        check.due("value() of a second object", fresh.value(), 0);
        check.due("size() of a second object", fresh.size(), 0);
        check.due("end(1) of a second object", fresh.end(1), -1);
        check.writes(fresh, 0, 9, 9);
        check.due("at(0) of the first object", used.at(0), 7);
        check.due("value() of the first object", used.value(), 5);
    }
}
