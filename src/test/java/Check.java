/** Counts the answers that are not as due; what all tests of the project share. */
final class Check {
    private int wrong = 0;

    void due(String call, long got, long want) {
        if (got != want) {
            wrong++;
            System.out.println(call + " answered " + got + ", due is " + want);
        }
    }

    /** Ends the program with exit code 1 if an answer was wrong. */
    void finish() {
        System.out.println(wrong == 0 ? "all answers are as due" : wrong + " answers are not as due");
        if (wrong != 0) {
            System.exit(1);
        }
    }

    /** A new object whose row has just these bytes. */
    GroupedNumbers withRow(int... bytes) {
        GroupedNumbers x = new GroupedNumbers();
        feedBytes(x, 0, bytes);
        return x;
    }

    /** Puts the bytes behind a row that has this many already. */
    void feedBytes(GroupedNumbers x, int before, int... bytes) {
        for (int from = 0; from < bytes.length; from += 20) {
            int[] words = new int[5];
            for (int i = 0; i < 20; i++) {
                int b = from + i < bytes.length ? bytes[from + i] : 0;
                words[i / 4] = words[i / 4] << 8 | b;
            }
            due("feed", x.feed(words[0], words[1], words[2], words[3], words[4]), before + from + 20);
        }
        due("end", x.end(before + bytes.length), before + bytes.length);
    }

    /** A read that finds a number. */
    void reads(GroupedNumbers x, int how, int at, int bytes, long number) {
        String call = "read(" + how + ", " + at + ")";
        due(call, x.read(how, at), bytes);
        due("value() after " + call, x.value(), number);
    }

    /** A read that is refused, and so leaves the value as it was. */
    void refusesRead(GroupedNumbers x, int how, int at, int answer) {
        String call = "read(" + how + ", " + at + ")";
        long before = x.value();
        due(call, x.read(how, at), answer);
        due("value() after " + call, x.value(), before);
    }

    /** A write that adds just these bytes to the output. */
    void writes(GroupedNumbers x, int how, long v, int... bytes) {
        String call = "write(" + how + ", " + v + ")";
        int before = x.size();
        due(call, x.write(how, v), bytes.length);
        due("size() after " + call, x.size(), before + bytes.length);
        for (int i = 0; i < bytes.length; i++) {
            due("at(" + (before + i) + ") after " + call, x.at(before + i), bytes[i]);
        }
        due("at behind the end after " + call, x.at(before + bytes.length), -1);
    }

    /** A write that is refused, and so leaves the output as it was. */
    void refusesWrite(GroupedNumbers x, int how, long v, int answer) {
        String call = "write(" + how + ", " + v + ")";
        int before = x.size();
        due(call, x.write(how, v), answer);
        due("size() after " + call, x.size(), before);
        due("at(" + before + ") after " + call, x.at(before), -1);
    }
}
