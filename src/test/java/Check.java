/** What the tests share: answers that are due, orders typed as texts, and all that a hall tells. */
final class Check {
    static final int INVALID = -1000001;
    static final int NOT_POSSIBLE = -1000002;
    static final int LIMIT = -1000003;
    static final int NOT_FOUND = -1000004;

    private static int checked = 0;
    private static int wrong = 0;

    private Check() {
    }

    static void due(String call, long got, long want) {
        checked++;
        if (got != want) {
            wrong++;
            System.out.println(call + " answered " + got + ", due is " + want);
        }
    }

    static void dueDouble(String call, long got, double want) {
        due(call + " = " + Double.longBitsToDouble(got), got, Double.doubleToRawLongBits(want));
    }

    static void dueText(String what, String got, String want) {
        checked++;
        if (!got.equals(want)) {
            wrong++;
            System.out.println(what + ":\n  is     " + got + "\n  due is " + want);
        }
    }

    static void dueTrue(String what, boolean holds) {
        checked++;
        if (!holds) {
            wrong++;
            System.out.println(what);
        }
    }

    static void end() {
        System.out.println(wrong == 0 ? "all " + checked + " answers are as due" : wrong + " answers are not as due");
        if (wrong != 0) {
            System.exit(1);
        }
    }

    static RenewalClocks typed(RenewalClocks x, String text) {
        x.clearText();
        for (int i = 0; i < text.length(); i++) {
            due("type of " + text.charAt(i), x.type(text.charAt(i)), i + 1);
        }
        return x;
    }

    static void dueFault(RenewalClocks x, String text, int position, int reason, int cause) {
        typed(x, text);
        due("position of the fault of " + text, x.fault(0), position);
        due("reason of the fault of " + text, x.fault(1), reason);
        due("cause of the fault of " + text, x.fault(2), cause);
    }

    /** All that a hall tells but its history, to see what a call changes. */
    static String all(RenewalClocks x) {
        StringBuilder told = new StringBuilder();
        for (int what = 0; what <= 10; what++) {
            if (what != 9) {
                told.append(x.count(what)).append(' ');
            }
        }
        for (int clock = 0; clock < x.count(0); clock++) {
            told.append("\n  clock");
            for (int what = 0; what <= 13; what++) {
                told.append(' ').append(x.clockOf(clock, what));
            }
            for (int what = 0; what <= 5; what++) {
                told.append(' ').append(x.mean(clock, what));
            }
            for (int what = 0; what <= 3; what++) {
                told.append(' ').append(x.would(clock, 77, what));
            }
        }
        for (int group = 0; group < x.count(1); group++) {
            told.append("\n  group");
            for (int what = 0; what <= 5; what++) {
                told.append(' ').append(x.groupOf(group, what));
            }
            told.append(' ').append(x.meets(group));
        }
        return told.append("\n  ").append(x.longer()).toString();
    }
}
