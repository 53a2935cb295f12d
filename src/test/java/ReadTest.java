/** Promise 4: reads a number of each kind, or refuses what is none such. */
public final class ReadTest {
    private static final Check check = new Check();

    public static void main(String[] args) {
        everySingleByte();
        everyFifthByte();
        everyTenthByte();
        moreBytesThanNeeded();
        tooManyBytes();
        cutOff();
        endsWithTheRow();
        wrongArguments();
        refusedChangesNothing();
        check.finish();
    }

    private static void everySingleByte() {
        for (int b = 0; b < 128; b++) {
            GroupedNumbers x = check.withRow(b);
            long signed = b < 64 ? b : b - 128;
            check.reads(x, 0, 0, 1, b);
            check.reads(x, 1, 0, 1, signed);
            check.reads(x, 2, 0, 1, signed);
        }
        for (int b = 128; b < 256; b++) {
            GroupedNumbers x = check.withRow(b);
            check.refusesRead(x, 0, 0, -1);
            check.refusesRead(x, 1, 0, -1);
            check.refusesRead(x, 2, 0, -1);
        }
    }

    private static void everyFifthByte() {
        long low = 0x81L - 128 | 2L << 7 | 3L << 14 | 4L << 21;
        for (int b = 0; b < 256; b++) {
            GroupedNumbers x = check.withRow(0x81, 0x82, 0x83, 0x84, b, 0, 0, 0, 0, 0);
            if (b <= 15) {
                check.reads(x, 0, 0, 5, low + b * 268435456L);
            } else {
                check.refusesRead(x, 0, 0, -1);
            }
            if (b <= 7) {
                check.reads(x, 1, 0, 5, low + b * 268435456L);
            } else if (b >= 120 && b <= 127) {
                check.reads(x, 1, 0, 5, low + (b - 128) * 268435456L);
            } else {
                check.refusesRead(x, 1, 0, -1);
            }
            if (b <= 63) {
                check.reads(x, 2, 0, 5, low + b * 268435456L);
            } else if (b <= 127) {
                check.reads(x, 2, 0, 5, low + (b - 128) * 268435456L);
            } else {
                check.reads(x, 2, 0, 6, low + (b - 128) * 268435456L);
            }
        }
    }

    private static void everyTenthByte() {
        for (int b = 0; b < 256; b++) {
            GroupedNumbers x = check.withRow(0x81, 0x80, 0x80, 0x80, 0x80, 0x80, 0x80, 0x80, 0x80, b, 0, 0);
            if (b == 0) {
                check.reads(x, 2, 0, 10, 1);
            } else if (b == 127) {
                check.reads(x, 2, 0, 10, Long.MIN_VALUE + 1);
            } else {
                check.refusesRead(x, 2, 0, -1);
            }
            check.refusesRead(x, 0, 0, -1);
            check.refusesRead(x, 1, 0, -1);
        }
    }

    private static void moreBytesThanNeeded() {
        GroupedNumbers zero = check.withRow(0x80, 0x80, 0x80, 0x80, 0x80, 0x80, 0x80, 0x80, 0x80, 0);
        GroupedNumbers ones = check.withRow(0xff, 0xff, 0xff, 0xff, 0xff, 0xff, 0xff, 0xff, 0xff, 0x7f);
        for (int bytes = 10; bytes >= 1; bytes--) {
            check.reads(zero, 2, 10 - bytes, bytes, 0);
            check.reads(ones, 2, 10 - bytes, bytes, -1);
            if (bytes <= 5) {
                check.reads(zero, 0, 10 - bytes, bytes, 0);
                check.reads(zero, 1, 10 - bytes, bytes, 0);
                check.reads(ones, 1, 10 - bytes, bytes, -1);
            }
        }
        check.refusesRead(ones, 0, 5, -1);
        check.reads(ones, 0, 6, 4, 268435455);
        check.reads(check.withRow(0xff, 0x80, 0x00), 0, 0, 3, 127);
        check.reads(check.withRow(0xc0, 0xff, 0x7f), 1, 0, 3, -64);
        check.reads(check.withRow(0xc0, 0x00), 1, 0, 2, 64);
        check.reads(check.withRow(0xc0, 0x00), 2, 0, 2, 64);
    }

    private static void tooManyBytes() {
        GroupedNumbers x = check.withRow(0x80, 0x80, 0x80, 0x80, 0x80, 0x80, 0x80, 0x80, 0x80, 0x80, 0);
        check.refusesRead(x, 2, 0, -1);
        check.reads(x, 2, 1, 10, 0);
        check.refusesRead(x, 0, 5, -1);
        check.refusesRead(x, 1, 5, -1);
        check.reads(x, 0, 6, 5, 0);
        check.reads(x, 1, 6, 5, 0);
    }

    private static void cutOff() {
        GroupedNumbers x = check.withRow(0x81, 0x82, 0x83, 0x84, 0x05, 0x06);
        for (int length = 6; length >= 0; length--) {
            check.due("end", x.end(length), length);
            for (int how = 0; how <= 2; how++) {
                if (length >= 5) {
                    check.reads(x, how, 0, 5, 1 + 2 * 128 + 3 * 16384 + 4 * 2097152 + 5 * 268435456L);
                } else {
                    check.refusesRead(x, how, 0, -1);
                }
            }
        }
    }

    private static void endsWithTheRow() {
        GroupedNumbers x = new GroupedNumbers();
        for (int i = 1; i <= 50; i++) {
            check.due("feed", x.feed(-1, -1, -1, -1, i == 50 ? 0xffffff7f : -1), 20 * i);
        }
        check.reads(x, 2, 990, 10, -1);
        check.refusesRead(x, 2, 989, -1);
        check.reads(x, 1, 995, 5, -1);
        check.refusesRead(x, 1, 994, -1);
        check.reads(x, 0, 999, 1, 127);
        check.due("end(999)", x.end(999), 999);
        for (int at = 985; at <= 999; at++) {
            check.refusesRead(x, 0, at, -1);
            check.refusesRead(x, 1, at, -1);
            check.refusesRead(x, 2, at, -1);
        }
        check.refusesRead(x, 2, 1000, -2);
    }

    private static void wrongArguments() {
        GroupedNumbers x = check.withRow(1, 2, 3);
        int[] noKind = {-1, 3, 4, -2147483648, 2147483647, 256};
        for (int how : noKind) {
            check.refusesRead(x, how, 0, -2);
            check.refusesRead(x, how, 3, -2);
            check.refusesRead(x, how, 4, -2);
        }
        int[] noPlace = {-1, 4, 1000, 1001, -2147483648, 2147483647};
        for (int at : noPlace) {
            for (int how = 0; how <= 2; how++) {
                check.refusesRead(x, how, at, -2);
            }
        }
        for (int how = 0; how <= 2; how++) {
            check.refusesRead(x, how, 3, -1);
            check.reads(x, how, 2, 1, 3);
        }
    }

    private static void refusedChangesNothing() {
        GroupedNumbers x = check.withRow(42, 0xff, 0xff, 0xff, 0xff, 0x10);
        check.reads(x, 0, 0, 1, 42);
        check.refusesRead(x, 0, 1, -1);
        check.refusesRead(x, 1, 1, -1);
        check.refusesRead(x, 3, 1, -2);
        check.refusesRead(x, 0, 7, -2);
        check.due("value()", x.value(), 42);
        check.due("end(7)", x.end(7), -1);
        check.due("end(6)", x.end(6), 6);
        check.due("size()", x.size(), 0);
    }
}
