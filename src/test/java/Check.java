import java.util.function.Supplier;
import java.util.function.ToLongFunction;

/** What the tests share: answers that are due, orders typed as texts, and all that a hall tells. */
final class Check {
    static final int INVALID = -1000001;
    static final int NOT_POSSIBLE = -1000002;
    static final int LIMIT = -1000003;
    static final int NOT_FOUND = -1000004;

    private static int checked = 0;
    private static int wrong = 0;
    private static String sentence = "";

    private Check() {
    }

    /** The words of the document that the answers below are held against; told with each that is wrong. */
    static void sentence(String words) {
        sentence = words;
    }

    private static void tellWrong(String what) {
        wrong++;
        System.out.println(sentence.isEmpty() ? what : what + "  [" + sentence + "]");
    }

    static void due(String call, long got, long want) {
        checked++;
        if (got != want) {
            tellWrong(call + " answered " + got + ", due is " + want);
        }
    }

    static void dueDouble(String call, long got, double want) {
        due(call + " = " + Double.longBitsToDouble(got), got, Double.doubleToRawLongBits(want));
    }

    static void dueText(String what, String got, String want) {
        checked++;
        if (!got.equals(want)) {
            tellWrong(what + ":\n  is     " + got + "\n  due is " + want);
        }
    }

    static void dueTrue(String what, boolean holds) {
        checked++;
        if (!holds) {
            tellWrong(what);
        }
    }

    static void end() {
        System.out.println(wrong == 0 ? "all " + checked + " answers are as due" : wrong + " answers are not as due");
        if (wrong != 0) {
            System.exit(1);
        }
    }

    static RenewalClocks typed(RenewalClocks x, String text) {
        x.clearText();
        for (int i = 0; i < text.length(); i++) {
            due("type of " + text.charAt(i), x.type(text.charAt(i)), i + 1);
        }
        return x;
    }

    static void dueFault(RenewalClocks x, String text, int position, int reason, int cause) {
        typed(x, text);
        due("position of the fault of " + text, x.fault(0), position);
        due("reason of the fault of " + text, x.fault(1), reason);
        due("cause of the fault of " + text, x.fault(2), cause);
    }

    /** All that a hall tells but its history, to see what a call changes. */
    static String all(RenewalClocks x) {
        StringBuilder told = new StringBuilder();
        for (int what = 0; what <= 10; what++) {
            if (what != 9) {
                told.append(x.count(what)).append(' ');
            }
        }
        int clocks = x.count(0);
        for (int clock = 0; clock < clocks; clock++) {
            told.append("\n  clock");
            for (int what = 0; what <= 13; what++) {
                told.append(' ').append(x.clockOf(clock, what));
            }
            for (int what = 0; what <= 5; what++) {
                told.append(' ').append(x.mean(clock, what));
            }
            for (int what = 0; what <= 3; what++) {
                told.append(' ').append(x.would(clock, 77, what));
            }
        }
        int groups = x.count(1);
        for (int group = 0; group < groups; group++) {
            told.append("\n  group");
            for (int what = 0; what <= 5; what++) {
                told.append(' ').append(x.groupOf(group, what));
            }
            told.append(' ').append(x.meets(group));
        }
        return told.append("\n  ").append(x.longer()).toString();
    }

    /** Less than all, so that several states of one object can be told within its 512 calls. */
    private static String some(RenewalClocks x) {
        StringBuilder told = new StringBuilder();
        for (int what = 0; what <= 8; what++) {
            told.append(x.count(what)).append(' ');
        }
        int clocks = x.count(0);
        for (int clock = 0; clock < clocks; clock++) {
            told.append(x.clockOf(clock, 7)).append(' ').append(x.clockOf(clock, 9)).append(' ');
        }
        int groups = x.count(1);
        for (int group = 0; group < groups; group++) {
            told.append(x.groupOf(group, 1)).append(' ').append(x.groupOf(group, 3)).append(' ');
        }
        return told.toString();
    }

    /** All that an object tells, and its text and its history, for which it is undone and played at the end. */
    static String everything(RenewalClocks x) {
        StringBuilder told = new StringBuilder("text " + x.count(10) + ", fault");
        for (int what = 0; what <= 2; what++) {
            told.append(' ').append(x.fault(what));
        }
        told.append(", states ").append(x.count(9)).append("\n  ").append(all(x));
        int left = x.undo();
        for (int i = 0; i < 9 && left != NOT_POSSIBLE; i++) {
            told.append("\n  undo ").append(left).append(": ").append(some(x));
            left = x.undo();
        }
        return told.append("\n  play ").append(x.play()).append(": ").append(some(x)).toString();
    }

    /** The call answers the error, and all behind it is as in an object made in the same way without it. */
    static void refused(String call, Supplier<RenewalClocks> made, ToLongFunction<RenewalClocks> refused, long error) {
        RenewalClocks x = made.get();
        due(call, refused.applyAsLong(x), error);
        dueText("all behind " + call, everything(x), everything(made.get()));
    }
}
