/** Promise 6: writes a number of each kind in as few bytes as possible, or refuses it. */
public final class WriteTest {
    private static final Check check = new Check();

    public static void main(String[] args) {
        withoutSign();
        ints();
        longs();
        lengthsAtEveryEdge();
        noSuchNumber();
        wrongKind();
        noRoom();
        readsBackWhatItWrote();
        check.finish();
    }

    private static void withoutSign() {
        GroupedNumbers x = new GroupedNumbers();
        check.writes(x, 0, 0, 0);
        check.writes(x, 0, 63, 63);
        check.writes(x, 0, 64, 64);
        check.writes(x, 0, 127, 127);
        check.writes(x, 0, 128, 128, 1);
        check.writes(x, 0, 16383, 255, 127);
        check.writes(x, 0, 16384, 128, 128, 1);
        check.writes(x, 0, 624485, 0xe5, 0x8e, 0x26);
        check.writes(x, 0, 268435455, 255, 255, 255, 127);
        check.writes(x, 0, 268435456, 128, 128, 128, 128, 1);
        check.writes(x, 0, 2147483648L, 128, 128, 128, 128, 8);
        check.writes(x, 0, 4294967295L, 255, 255, 255, 255, 15);
    }

    private static void ints() {
        GroupedNumbers x = new GroupedNumbers();
        check.writes(x, 1, 0, 0);
        check.writes(x, 1, -1, 127);
        check.writes(x, 1, 63, 63);
        check.writes(x, 1, 64, 192, 0);
        check.writes(x, 1, -64, 64);
        check.writes(x, 1, -65, 191, 127);
        check.writes(x, 1, 128, 128, 1);
        check.writes(x, 1, -128, 128, 127);
        check.writes(x, 1, -123456, 0xc0, 0xbb, 0x78);
        check.writes(x, 1, 134217727, 255, 255, 255, 63);
        check.writes(x, 1, 134217728, 128, 128, 128, 192, 0);
        check.writes(x, 1, -134217728, 128, 128, 128, 64);
        check.writes(x, 1, -134217729, 255, 255, 255, 191, 127);
        check.writes(x, 1, 2147483647, 255, 255, 255, 255, 7);
        check.writes(x, 1, -2147483648L, 128, 128, 128, 128, 120);
    }

    private static void longs() {
        GroupedNumbers x = new GroupedNumbers();
        check.writes(x, 2, 0, 0);
        check.writes(x, 2, -1, 127);
        check.writes(x, 2, 64, 192, 0);
        check.writes(x, 2, -65, 191, 127);
        check.writes(x, 2, 2147483648L, 128, 128, 128, 128, 8);
        check.writes(x, 2, -2147483649L, 255, 255, 255, 255, 119);
        check.writes(x, 2, (1L << 62) - 1, 255, 255, 255, 255, 255, 255, 255, 255, 63);
        check.writes(x, 2, 1L << 62, 128, 128, 128, 128, 128, 128, 128, 128, 192, 0);
        check.writes(x, 2, -(1L << 62), 128, 128, 128, 128, 128, 128, 128, 128, 64);
        check.writes(x, 2, -(1L << 62) - 1, 255, 255, 255, 255, 255, 255, 255, 255, 191, 127);
        check.writes(x, 2, Long.MAX_VALUE, 255, 255, 255, 255, 255, 255, 255, 255, 255, 0);
        check.writes(x, 2, Long.MIN_VALUE, 128, 128, 128, 128, 128, 128, 128, 128, 128, 127);
    }

    private static void lengthsAtEveryEdge() {
        for (int groups = 1; groups <= 9; groups++) {
            long half = 1L << (7 * groups - 1);
            lengthIs(2, half - 1, groups);
            lengthIs(2, half, groups + 1);
            lengthIs(2, -half, groups);
            lengthIs(2, -half - 1, groups + 1);
            if (groups <= 4) {
                lengthIs(1, half - 1, groups);
                lengthIs(1, half, groups + 1);
                lengthIs(1, -half, groups);
                lengthIs(1, -half - 1, groups + 1);
                lengthIs(0, 2 * half - 1, groups);
                lengthIs(0, 2 * half, groups + 1);
            }
        }
    }

    private static void lengthIs(int how, long v, int bytes) {
        check.due("write(" + how + ", " + v + ")", new GroupedNumbers().write(how, v), bytes);
    }

    private static void noSuchNumber() {
        GroupedNumbers x = new GroupedNumbers();
        check.writes(x, 0, 300, 172, 2);
        long[] noU = {-1, 4294967296L, -2147483648L, Long.MIN_VALUE, Long.MAX_VALUE, 1L << 35, 1L << 63 | 5};
        for (long v : noU) {
            check.refusesWrite(x, 0, v, -1);
        }
        long[] noS = {2147483648L, -2147483649L, 4294967295L, Long.MIN_VALUE, Long.MAX_VALUE, 1L << 34, -1L << 34};
        for (long v : noS) {
            check.refusesWrite(x, 1, v, -1);
        }
        check.due("at(0)", x.at(0), 172);
        check.due("at(1)", x.at(1), 2);
    }

    private static void wrongKind() {
        GroupedNumbers x = new GroupedNumbers();
        int[] noKind = {-1, 3, 4, -2147483648, 2147483647, 256};
        for (int how : noKind) {
            check.refusesWrite(x, how, 0, -2);
            check.refusesWrite(x, how, -1, -2);
            check.refusesWrite(x, how, Long.MIN_VALUE, -2);
        }
    }

    private static void noRoom() {
        GroupedNumbers x = new GroupedNumbers();
        for (int i = 0; i < 99; i++) {
            check.due("write " + i, x.write(2, Long.MAX_VALUE), 10);
        }
        check.due("write to 991", x.write(2, 3), 1);
        check.refusesWrite(x, 2, Long.MIN_VALUE, -2);
        check.writes(x, 2, -(1L << 62), 128, 128, 128, 128, 128, 128, 128, 128, 64);
        check.due("size() when full", x.size(), 1000);
        check.due("at(990)", x.at(990), 3);
        check.due("at(999)", x.at(999), 64);
        for (int how = 0; how <= 2; how++) {
            check.refusesWrite(x, how, 0, -2);
        }
        // What is no number of its kind has no length, so that is told before the lack of room.
        check.refusesWrite(x, 0, -1, -1);
        check.refusesWrite(x, 1, 2147483648L, -1);
        check.refusesWrite(x, 3, 0, -2);
        x.clear();
        check.writes(x, 0, 5, 5);
    }

    private static void readsBackWhatItWrote() {
        long v = 1;
        for (int i = 0; i < 3000; i++) {
            v = v * 6364136223846793005L + 1442695040888963407L;
            int how = i % 3;
            long any = v >> (i % 61);
            long number = how == 0 ? any & 4294967295L : how == 1 ? (int) any : any;
            GroupedNumbers x = new GroupedNumbers();
            int count = x.write(how, number);
            int[] bytes = new int[count];
            for (int b = 0; b < count; b++) {
                bytes[b] = x.at(b);
            }
            check.reads(check.withRow(bytes), how, 0, count, number);
        }
    }
}
