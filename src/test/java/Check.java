import java.util.function.IntToLongFunction;

/** What every test of the project uses: feeding texts, comparing answers, ending with the right code. */
final class Check {
    private static int wrong = 0;
    private static int asked = 0;

    private Check() {
    }

    static void due(String call, long got, long want) {
        asked++;
        if (got != want) {
            wrong++;
            System.out.println(call + " answered " + got + ", due is " + want);
        }
    }

    /** Puts a text behind the tape: blanks fill the last twenty bytes and are cut off again. */
    static void tell(NoseDrum x, String text) {
        int before = x.count(6);
        StringBuilder padded = new StringBuilder(text);
        while (padded.length() % 20 != 0) {
            padded.append(' ');
        }
        for (int i = 0; i < padded.length(); i += 20) {
            x.feed(four(padded, i), four(padded, i + 4), four(padded, i + 8), four(padded, i + 12), four(padded, i + 16));
        }
        due("end behind a text", x.end(before + text.length()), before + text.length());
    }

    private static int four(CharSequence text, int at) {
        return text.charAt(at) << 24 | text.charAt(at + 1) << 16 | text.charAt(at + 2) << 8 | text.charAt(at + 3);
    }

    static NoseDrum drumOf(String text, int lines) {
        NoseDrum x = new NoseDrum();
        tell(x, text);
        due("drum() of " + text, x.drum(), lines);
        return x;
    }

    static void motionOf(NoseDrum x, String text, int steps) {
        tell(x, text);
        due("motion() of " + text, x.motion(), steps);
    }

    /** The sign ^ stands where the fault is due, and is not told. */
    static void drumFault(int fault, String marked) {
        NoseDrum x = new NoseDrum();
        String text = marked.replace("^", "");
        tell(x, text);
        due("drum() of " + marked, x.drum(), -4);
        due("fault(0) of " + marked, x.fault(0), fault);
        due("fault(1) of " + marked, x.fault(1), marked.indexOf('^'));
        due("fault(2) of " + marked, x.fault(2), -1);
        due("count(6) behind " + marked, x.count(6), text.length());
        due("count(5) behind " + marked, x.count(5), 0);
    }

    /** The sign ^ stands where the fault is due, and is not told. */
    static void motionFault(NoseDrum x, int fault, String marked) {
        String text = marked.replace("^", "");
        x.end(0);
        tell(x, text);
        due("motion() of " + marked, x.motion(), -4);
        due("fault(0) of " + marked, x.fault(0), fault);
        due("fault(1) of " + marked, x.fault(1), marked.indexOf('^'));
        due("count(6) behind " + marked, x.count(6), text.length());
        x.end(0);
    }

    static void numbers(NoseDrum x, int slot, int width, long... numbers) {
        due("row", x.row(slot, width, numbers.length), 0);
        for (int i = 0; i < numbers.length; i++) {
            due("write", x.write(slot, i, numbers[i]), 0);
        }
    }

    /** Of a number of a call the last ones that are taken and the first ones that are refused, on both sides. */
    static void bounds(String call, IntToLongFunction ask, int least, int most, int refusal) {
        due(call + " takes " + least, isTaken(ask.applyAsLong(least), refusal), 1);
        due(call + " takes " + most, isTaken(ask.applyAsLong(most), refusal), 1);
        due(call + " of " + (least - 1), ask.applyAsLong(least - 1), refusal);
        due(call + " of " + (most + 1), ask.applyAsLong(most + 1), refusal);
        due(call + " of the least int", ask.applyAsLong(Integer.MIN_VALUE), refusal);
        due(call + " of the greatest int", ask.applyAsLong(Integer.MAX_VALUE), refusal);
        due(call + " takes " + least + " again", isTaken(ask.applyAsLong(least), refusal), 1);
    }

    private static int isTaken(long answer, int refusal) {
        return answer >= NoseDrum.NONE && answer != refusal ? 1 : 0;
    }

    static void finish() {
        System.out.println(wrong == 0 ? asked + " answers are as due" : wrong + " of " + asked + " answers are not as due");
        if (wrong != 0) {
            System.exit(1);
        }
    }
}
