import java.util.ArrayList;
import java.util.List;
import java.util.function.Function;
import java.util.function.ToIntFunction;

/**
 * "A call that is refused changes nothing": of two equal objects one gets a refused call, and then
 * both must answer all later calls alike.
 */
public final class BoundaryRefusedTest {
    /** At place 0 a number that is no U and no S, at place 5 one that is no L. */
    private static final int[] FIRST_BYTES = {255, 255, 255, 255, 16, 128, 128, 128, 128, 128, 128, 128, 128, 128, 1, 9};
    private static final int PLACES_OF_A_PART = 50;
    private static final Check check = new Check();

    private final int rowLength;
    private final int outputLength;

    private BoundaryRefusedTest(int rowLength, int outputLength) {
        this.rowLength = rowLength;
        this.outputLength = outputLength;
    }

    public static void main(String[] args) {
        tell("feed");
        for (BoundaryRefusedTest state : states()) {
            state.refuseFeed();
        }
        tell("end");
        for (BoundaryRefusedTest state : states()) {
            state.refuseEnd();
        }
        tell("read");
        for (BoundaryRefusedTest state : states()) {
            state.refuseRead();
        }
        tell("write");
        for (BoundaryRefusedTest state : states()) {
            state.refuseWrite();
        }
        tell("at");
        for (BoundaryRefusedTest state : states()) {
            state.refuseAt();
        }
        check.finish();
    }

    private static void tell(String call) {
        check.sentence("Terms, of " + call, "A call that is refused changes nothing");
    }

    private static List<BoundaryRefusedTest> states() {
        int[][] lengths = {{0, 0}, {1, 1}, {20, 3}, {980, 990}, {981, 991}, {999, 996}, {1000, 999}, {1000, 1000}};
        List<BoundaryRefusedTest> states = new ArrayList<>();
        for (int[] pair : lengths) {
            states.add(new BoundaryRefusedTest(pair[0], pair[1]));
        }
        return states;
    }

    private void refuseFeed() {
        if (rowLength > 980) {
            refuse("feed", -1, x -> x.feed(0x01010101, 0x02020202, 0x03030303, 0x04040404, 0x05050505));
            refuse("feed", -1, x -> x.feed(-1, -1, -1, -1, -1));
        }
    }

    private void refuseEnd() {
        for (int n : new int[] {-1, Integer.MIN_VALUE, rowLength + 1, 1001, Integer.MAX_VALUE}) {
            refuse("end(" + n + ")", -1, x -> x.end(n));
        }
    }

    private void refuseRead() {
        for (int kind = 0; kind <= 2; kind++) {
            int how = kind;
            for (int at : new int[] {-1, Integer.MIN_VALUE, rowLength + 1, 1001, Integer.MAX_VALUE}) {
                refuse("read(" + how + ", " + at + ")", -2, x -> x.read(how, at));
            }
            refuse("read(" + how + ") behind the row", -1, x -> x.read(how, rowLength));
            if (rowLength > 0) {
                refuse("read(" + how + ") cut off", -1, x -> x.read(how, rowLength - 1));
            }
            if (rowLength >= 20) {
                refuse("read(" + how + ") of no number", -1, x -> x.read(how, how == 2 ? 5 : 0));
            }
        }
        for (int how : new int[] {-1, 3, Integer.MIN_VALUE, Integer.MAX_VALUE}) {
            refuse("read(" + how + ", 0)", -2, x -> x.read(how, 0));
        }
    }

    private void refuseWrite() {
        for (long v : new long[] {-1, 4294967296L, Long.MIN_VALUE, Long.MAX_VALUE}) {
            refuse("write(0, " + v + ")", -1, x -> x.write(0, v));
        }
        for (long v : new long[] {-2147483649L, 2147483648L, Long.MIN_VALUE, Long.MAX_VALUE}) {
            refuse("write(1, " + v + ")", -1, x -> x.write(1, v));
        }
        for (int how : new int[] {-1, 3, Integer.MIN_VALUE, Integer.MAX_VALUE}) {
            refuse("write(" + how + ", 1)", -2, x -> x.write(how, 1));
        }
        if (outputLength > 990) {
            refuse("write(2, least)", -2, x -> x.write(2, Long.MIN_VALUE));
        }
        if (outputLength > 995) {
            refuse("write(0, greatest)", -2, x -> x.write(0, 4294967295L));
            refuse("write(1, least)", -2, x -> x.write(1, -2147483648L));
        }
        if (outputLength == 1000) {
            refuse("write(0, 0)", -2, x -> x.write(0, 0));
        }
    }

    private void refuseAt() {
        for (int i : new int[] {-1, outputLength, 1000, Integer.MIN_VALUE, Integer.MAX_VALUE}) {
            refuse("at(" + i + ")", -1, x -> x.at(i));
        }
    }

    private void refuse(String call, int answer, ToIntFunction<GroupedNumbers> refused) {
        int places = Math.max(rowLength, outputLength) + 2;
        // One object is good for 512 calls, so that long rows and outputs are looked at in parts.
        for (int from = 0; from < places; from += PLACES_OF_A_PART) {
            int first = from;
            compare(call, answer, refused, x -> lookAtPlaces(x, first));
        }
        compare(call, answer, refused, this::feedAndRead);
        compare(call, answer, refused, this::writeAndLook);
        compare(call, answer, refused, this::clearAndLook);
    }

    private void compare(String call, int answer, ToIntFunction<GroupedNumbers> refused,
            Function<GroupedNumbers, List<Long>> laterCalls) {
        GroupedNumbers x = make();
        check.due(call, refused.applyAsInt(x), answer);
        List<Long> got = laterCalls.apply(x);
        List<Long> due = laterCalls.apply(make());
        check.due("how many later answers after " + call, got.size(), due.size());
        for (int i = 0; i < due.size(); i++) {
            check.due("later answer " + i + " after " + call, got.get(i), due.get(i));
        }
    }

    /** An object of these lengths whose value is not 0, and whose row ends with a number cut off. */
    private GroupedNumbers make() {
        GroupedNumbers x = check.withRow(100);
        check.reads(x, 1, 0, 1, -28);
        check.due("end(0)", x.end(0), 0);
        int[] bytes = new int[rowLength];
        for (int i = 0; i < rowLength; i++) {
            bytes[i] = i == rowLength - 1 ? 200 : i < FIRST_BYTES.length ? FIRST_BYTES[i] : i % 100;
        }
        check.feedBytes(x, 0, bytes);
        check.fillOutput(x, outputLength);
        return x;
    }

    private List<Long> lookAtPlaces(GroupedNumbers x, int from) {
        List<Long> answers = new ArrayList<>();
        answers.add(x.value());
        answers.add((long) x.size());
        for (int i = from; i < from + PLACES_OF_A_PART; i++) {
            answers.add((long) x.at(i));
            answers.add((long) x.read(i % 3, i));
            answers.add(x.value());
        }
        answers.add((long) x.end(rowLength + 1));
        answers.add((long) x.end(rowLength));
        return answers;
    }

    private List<Long> feedAndRead(GroupedNumbers x) {
        List<Long> answers = new ArrayList<>();
        answers.add((long) x.feed(0x11223344, 0x55667708, 0x01020304, 0x05060708, 0x0a0b0c0d));
        for (int i = Math.max(0, rowLength - 2); i < rowLength + 22; i++) {
            answers.add((long) x.read(0, i));
            answers.add(x.value());
        }
        return answers;
    }

    private List<Long> writeAndLook(GroupedNumbers x) {
        List<Long> answers = new ArrayList<>();
        for (int i = 0; i < 12; i++) {
            answers.add((long) x.write(2, i % 2 == 0 ? 3 : -65));
            answers.add((long) x.size());
        }
        for (int i = Math.max(0, outputLength - 2); i < outputLength + 20; i++) {
            answers.add((long) x.at(i));
        }
        return answers;
    }

    private List<Long> clearAndLook(GroupedNumbers x) {
        List<Long> answers = new ArrayList<>();
        x.clear();
        answers.add(x.value());
        answers.add((long) x.size());
        answers.add((long) x.at(0));
        answers.add((long) x.end(1));
        return answers;
    }
}
