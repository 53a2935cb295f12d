/** The boundary cases of the output: write, size, at and clear (promises 1, 6, 7, 8 and 9). */
public final class BoundaryOutputTest {
    private static final int[] OUTPUT_LENGTHS = {0, 1, 9, 10, 999, 1000};
    private static final Check check = new Check();

    public static void main(String[] args) {
        nothingWrittenAtFirst();
        valueZeroAtFirst();
        leastAndGreatest();
        noSuchNumber();
        noKind();
        noRoom();
        bytesWritten();
        everyByte();
        noByte();
        nothingWrittenAfterClear();
        check.finish();
    }

    private static void nothingWrittenAtFirst() {
        check.sentence("Promise 1", "nothing written");
        isEmptyOutput(new GroupedNumbers());
    }

    private static void valueZeroAtFirst() {
        check.sentence("Promise 1", "the value 0");
        check.due("value() of a new object", new GroupedNumbers().value(), 0);
    }

    private static void leastAndGreatest() {
        check.sentence("Promise 6", "Writes a number: how many bytes");
        GroupedNumbers x = new GroupedNumbers();
        check.writes(x, 0, 0, 0);
        check.writes(x, 0, 4294967295L, 255, 255, 255, 255, 15);
        check.writes(x, 1, -2147483648L, 128, 128, 128, 128, 120);
        check.writes(x, 1, 2147483647, 255, 255, 255, 255, 7);
        check.writes(x, 2, Long.MIN_VALUE, 128, 128, 128, 128, 128, 128, 128, 128, 128, 127);
        check.writes(x, 2, Long.MAX_VALUE, 255, 255, 255, 255, 255, 255, 255, 255, 255, 0);
        // One inside the least and the greatest.
        check.writes(x, 0, 1, 1);
        check.writes(x, 0, 4294967294L, 254, 255, 255, 255, 15);
        check.writes(x, 1, -2147483647, 129, 128, 128, 128, 120);
        check.writes(x, 1, 2147483646, 254, 255, 255, 255, 7);
        check.writes(x, 2, Long.MIN_VALUE + 1, 129, 128, 128, 128, 128, 128, 128, 128, 128, 127);
        check.writes(x, 2, Long.MAX_VALUE - 1, 254, 255, 255, 255, 255, 255, 255, 255, 255, 0);
        check.due("size() after all these", x.size(), 1 + 5 + 5 + 5 + 10 + 10 + 1 + 5 + 5 + 5 + 10 + 10);
    }

    private static void noSuchNumber() {
        check.sentence("Promise 6", "-1 if v is no such number");
        for (int length : OUTPUT_LENGTHS) {
            GroupedNumbers x = new GroupedNumbers();
            check.fillOutput(x, length);
            // The last two would be small numbers if only their low 32 bits were looked at.
            for (long v : new long[] {-1, 4294967296L, Long.MIN_VALUE, Long.MAX_VALUE, 4294967301L, -4294967291L}) {
                check.refusesWrite(x, 0, v, -1);
            }
            for (long v : new long[] {-2147483649L, 2147483648L, 4294967295L, Long.MIN_VALUE, Long.MAX_VALUE,
                4294967301L, -4294967291L}) {
                check.refusesWrite(x, 1, v, -1);
            }
        }
    }

    private static void noKind() {
        check.sentence("Promise 6", "-2 if how is not 0 .. 2");
        for (int length : OUTPUT_LENGTHS) {
            GroupedNumbers x = new GroupedNumbers();
            check.fillOutput(x, length);
            for (int how : new int[] {-1, 3, -2, 4, Integer.MIN_VALUE, Integer.MAX_VALUE}) {
                for (long v : new long[] {0, -1, Long.MIN_VALUE, Long.MAX_VALUE}) {
                    check.refusesWrite(x, how, v, -2);
                }
            }
        }
    }

    private static void noRoom() {
        check.sentence("Promise 6", "or there is no room");
        for (int bytes = 1; bytes <= 10; bytes++) {
            long longNumber = bytes == 10 ? Long.MIN_VALUE : -(1L << (7 * bytes - 1));
            needsRoom(2, longNumber, bytes);
            if (bytes <= 5) {
                needsRoom(1, bytes == 5 ? -2147483648L : longNumber, bytes);
                needsRoom(0, bytes == 5 ? 4294967295L : -2 * longNumber - 1, bytes);
            }
        }
    }

    private static void needsRoom(int how, long v, int bytes) {
        for (int room = 0; room <= 10; room++) {
            GroupedNumbers x = new GroupedNumbers();
            check.fillOutput(x, 1000 - room);
            String call = "write(" + how + ", " + v + ") with room for " + room;
            check.due(call, x.write(how, v), room < bytes ? -2 : bytes);
            check.due("size() after " + call, x.size(), room < bytes ? 1000 - room : 1000 - room + bytes);
            for (int i = x.size(); i < 1000; i++) {
                check.due("write of one byte into the room that is left", x.write(0, 1), 1);
            }
            check.due("size() when full", x.size(), 1000);
            check.refusesWrite(x, how, v, -2);
        }
    }

    private static void bytesWritten() {
        check.sentence("Promise 7", "How many bytes were written");
        for (int length : OUTPUT_LENGTHS) {
            GroupedNumbers x = new GroupedNumbers();
            check.fillOutput(x, length);
            check.due("size()", x.size(), length);
            check.due("size() asked twice", x.size(), length);
            check.due("write refused", x.write(0, -1), -1);
            check.due("write refused", x.write(3, 0), -2);
            check.due("feed", x.feed(0, 0, 0, 0, 0), 20);
            check.due("read", x.read(0, 0), 1);
            check.due("end", x.end(0), 0);
            check.due("size() after what writes nothing", x.size(), length);
        }
    }

    private static void everyByte() {
        check.sentence("Promise 8", "Byte i of them");
        for (int length : OUTPUT_LENGTHS) {
            // One object is good for 512 calls, so that a long output is looked at in parts.
            for (int from = 0; from < length; from += 250) {
                GroupedNumbers x = new GroupedNumbers();
                check.fillOutput(x, length);
                for (int i = from; i < Math.min(from + 250, length); i++) {
                    check.due("at(" + i + ") of " + length, x.at(i), check.byteOfFill(length, i));
                }
                check.due("at the last byte of " + length, x.at(length - 1), check.byteOfFill(length, length - 1));
                check.due("at behind the last byte of " + length, x.at(length), -1);
            }
        }
    }

    private static void noByte() {
        check.sentence("Promise 8", "-1 if there is none");
        for (int length : OUTPUT_LENGTHS) {
            GroupedNumbers x = new GroupedNumbers();
            check.fillOutput(x, length);
            for (int i : new int[] {-1, -2, Integer.MIN_VALUE, length, length + 1, 1000, 1001, Integer.MAX_VALUE}) {
                check.due("at(" + i + ") of " + length, x.at(i), -1);
            }
        }
    }

    private static void nothingWrittenAfterClear() {
        check.sentence("Promise 9", "Nothing is written");
        for (int length : OUTPUT_LENGTHS) {
            GroupedNumbers x = new GroupedNumbers();
            check.fillOutput(x, length);
            x.clear();
            isEmptyOutput(x);
            check.writes(x, 0, 33, 33);
            check.due("at(1), left from before clear", x.at(1), -1);
            x.clear();
            x.clear();
            isEmptyOutput(x);
            check.fillOutput(x, 1000);
            check.due("size() when filled again", x.size(), 1000);
        }
    }

    private static void isEmptyOutput(GroupedNumbers x) {
        check.due("size() of an empty output", x.size(), 0);
        for (int i : new int[] {-1, 0, 1, 999, 1000}) {
            check.due("at(" + i + ") of an empty output", x.at(i), -1);
        }
    }
}
