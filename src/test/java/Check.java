/** Counts the answers that are not as due; what all tests of the project share. */
final class Check {
    private int wrong = 0;
    private String sentence = null;
    private int wrongBeforeSentence = 0;

    void due(String call, long got, long want) {
        if (got != want) {
            wrong++;
            System.out.println(call + " answered " + got + ", due is " + want);
        }
    }

    /** Names the words of the document that the answers from here on are held against. */
    void sentence(String section, String words) {
        tellSentence();
        sentence = section + ": \"" + words + "\"";
        wrongBeforeSentence = wrong;
    }

    private void tellSentence() {
        if (sentence != null) {
            System.out.println((wrong == wrongBeforeSentence ? "holds   " : "BROKEN  ") + sentence);
        }
        sentence = null;
    }

    /** Ends the program with exit code 1 if an answer was wrong. */
    void finish() {
        tellSentence();
        System.out.println(wrong == 0 ? "all answers are as due" : wrong + " answers are not as due");
        if (wrong != 0) {
            System.exit(1);
        }
    }

    /** A new object whose row has just these bytes. */
    GroupedNumbers withRow(int... bytes) {
        GroupedNumbers x = new GroupedNumbers();
        feedBytes(x, 0, bytes);
        return x;
    }

    /** Puts the bytes behind a row that has this many already. */
    void feedBytes(GroupedNumbers x, int before, int... bytes) {
        for (int from = 0; from < bytes.length; from += 20) {
            int[] words = new int[5];
            for (int i = 0; i < 20; i++) {
                int b = from + i < bytes.length ? bytes[from + i] : 0;
                words[i / 4] = words[i / 4] << 8 | b;
            }
            due("feed", x.feed(words[0], words[1], words[2], words[3], words[4]), before + from + 20);
        }
        due("end", x.end(before + bytes.length), before + bytes.length);
    }

    /** A new object with a row of this length, in which place i has the byte i % 128. */
    GroupedNumbers withRowOfLength(int length) {
        int[] bytes = new int[length];
        for (int i = 0; i < length; i++) {
            bytes[i] = i % 128;
        }
        return withRow(bytes);
    }

    /** Writes so many bytes in at most 109 calls; what they are is told by byteOfFill. */
    void fillOutput(GroupedNumbers x, int length) {
        for (int i = 0; i < length / 10; i++) {
            due("write of ten bytes", x.write(2, Long.MIN_VALUE + i), 10);
        }
        for (int i = 0; i < length % 10; i++) {
            due("write of one byte", x.write(0, 100 + i), 1);
        }
    }

    /** Byte i of an output of this length that fillOutput has written. */
    int byteOfFill(int length, int i) {
        if (i >= length - length % 10) {
            return 100 + i % 10;
        }
        return i % 10 == 9 ? 127 : i % 10 == 0 ? 128 + i / 10 : 128;
    }

    /** The row has just this many bytes; the last calls leave it so. */
    void rowHas(GroupedNumbers x, int length) {
        due("end(" + (length + 1) + ") of a row of " + length, x.end(length + 1), -1);
        due("end(" + length + ") of a row of " + length, x.end(length), length);
    }

    /** A read that finds a number. */
    void reads(GroupedNumbers x, int how, int at, int bytes, long number) {
        String call = "read(" + how + ", " + at + ")";
        due(call, x.read(how, at), bytes);
        due("value() after " + call, x.value(), number);
    }

    /** A read that is refused, and so leaves the value as it was. */
    void refusesRead(GroupedNumbers x, int how, int at, int answer) {
        String call = "read(" + how + ", " + at + ")";
        long before = x.value();
        due(call, x.read(how, at), answer);
        due("value() after " + call, x.value(), before);
    }

    /** A write that adds just these bytes to the output. */
    void writes(GroupedNumbers x, int how, long v, int... bytes) {
        String call = "write(" + how + ", " + v + ")";
        int before = x.size();
        due(call, x.write(how, v), bytes.length);
        due("size() after " + call, x.size(), before + bytes.length);
        for (int i = 0; i < bytes.length; i++) {
            due("at(" + (before + i) + ") after " + call, x.at(before + i), bytes[i]);
        }
        due("at behind the end after " + call, x.at(before + bytes.length), -1);
    }

    /** A write that is refused, and so leaves the output as it was. */
    void refusesWrite(GroupedNumbers x, int how, long v, int answer) {
        String call = "write(" + how + ", " + v + ")";
        int before = x.size();
        due(call, x.write(how, v), answer);
        due("size() after " + call, x.size(), before);
        due("at(" + before + ") after " + call, x.at(before), -1);
    }
}
