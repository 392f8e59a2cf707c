/** Promise 17, undo, and what the document says of changes and errors. */
public final class HistoryTest {
    public static void main(String[] args) {
        everyChangeIsUndone();
        atMostFourStates();
        statesAreTheirOwn();
        errorsKeepTheOldestState();
        undoneClocksAndGroupsLeaveNothing();
        textIsNotRestored();
        answersAndErrorsAreNoChanges();
        Check.end();
    }

    /** 3 clocks, 2 groups, 9 ticks: 9 changes. */
    private static RenewalClocks hall() {
        RenewalClocks x = new RenewalClocks();
        x.clock(0, 3, 5, 0, 0);
        x.clock(1, 1, 9, 20, 4);
        x.clock(0, 4, 0, 0, 0);
        x.group(0);
        x.group(1);
        x.join(0, 0);
        x.join(0, 2);
        x.tick(9);
        x.passenger(1);
        return x;
    }

    private static int change(RenewalClocks x, int which) {
        switch (which) {
            case 0:
                return x.clock(1, 7, 8, 0, 0);
            case 1:
                return x.wind(1);
            case 2:
                return x.tick(33);
            case 3:
                return x.passenger(0);
            case 4:
                return x.group(2);
            case 5:
                return x.join(1, 1);
            case 6:
                return x.leave(0, 2);
            default:
                return x.play();
        }
    }

    private static void everyChangeIsUndone() {
        for (int which = 0; which <= 7; which++) {
            RenewalClocks x = Check.typed(hall(), "c1,5,0,0,0;t7;w1;p0;j1,3;");
            String before = Check.all(x);
            Check.dueTrue("the change " + which + " is possible", change(x, which) >= 0);
            Check.dueTrue("the change " + which + " changes something", !Check.all(x).equals(before));
            Check.due("undo() of the change " + which, x.undo(), 3);
            Check.dueText("undo() of the change " + which, Check.all(x), before);
            Check.due("count(9)", x.count(9), 3);
        }
    }

    private static void atMostFourStates() {
        RenewalClocks x = new RenewalClocks();
        x.clock(0, 50, 0, 0, 0);
        for (int i = 1; i <= 9; i++) {
            Check.due("count(9)", x.count(9), Math.min(i, 4));
            x.tick(i);
        }
        // the ticks were 0, 1, 3, 6, 10, 15, 21, 28, 36, 45
        int[] ticks = {36, 28, 21, 15};
        for (int i = 0; i < 4; i++) {
            Check.due("undo()", x.undo(), 3 - i);
            Check.due("the tick", x.count(2), ticks[i]);
        }
        Check.due("undo() of nothing", x.undo(), Check.NOT_POSSIBLE);
        Check.due("the tick", x.count(2), 15);
        x.tick(1);
        Check.due("a state again", x.count(9), 1);
        Check.due("undo()", x.undo(), 0);
        Check.due("the tick", x.count(2), 15);
    }

    private static void statesAreTheirOwn() {
        RenewalClocks x = new RenewalClocks();
        x.clock(1, 5, 9, 0, 0);
        x.clock(1, 5, 9, 0, 0);
        x.group(1);
        x.join(0, 0);
        x.join(0, 1);
        String[] told = new String[9];
        for (int i = 0; i < 3; i++) {
            told[i] = Check.all(x);
            x.tick(20 + i);
        }
        x.undo();
        Check.dueText("one undone", Check.all(x), told[2]);
        x.wind(1);
        x.passenger(1);
        x.undo();
        x.undo();
        Check.dueText("two changes done and undone", Check.all(x), told[2]);
        x.undo();
        Check.dueText("two undone", Check.all(x), told[1]);
        x.undo();
        Check.dueText("three undone", Check.all(x), told[0]);
        Check.due("the state before is dropped", x.undo(), Check.NOT_POSSIBLE);
        Check.due("the clock that joined last is in it", x.groupOf(0, 1), 3);
    }

    private static void errorsKeepTheOldestState() {
        RenewalClocks x = new RenewalClocks();
        for (int i = 1; i <= 7; i++) {
            x.tick(i);
            Check.due("a wrong tick", x.tick(0), Check.INVALID);
        }
        // the ticks were 0, 1, 3, 6, 10, 15, 21
        int[] ticks = {21, 15, 10, 6};
        for (int i = 0; i < 4; i++) {
            Check.due("undo()", x.undo(), 3 - i);
            Check.due("the tick", x.count(2), ticks[i]);
        }
    }

    private static void undoneClocksAndGroupsLeaveNothing() {
        for (int law = 0; law <= 2; law++) {
            RenewalClocks x = Check.typed(new RenewalClocks(), "c0,3,5,7,9;c1,2,4,6,8;t40;p0;p1;w0;w1;t1;");
            x.play();
            x.clock(0, 50, 50, 50, 50);
            x.undo();
            x.undo();
            RenewalClocks fresh = Check.typed(new RenewalClocks(), "c0,3,5,7,9;c1,2,4,6,8;t40;p0;p1;w0;w1;t1;");
            Check.due("the first clock", x.clock(law, 4, 9, law == 2 ? 1 : 0, 0), 0);
            fresh.clock(law, 4, 9, law == 2 ? 1 : 0, 0);
            Check.dueText("a clock of the law " + law + " after undo()", Check.all(x), Check.all(fresh));
            x.tick(4);
            fresh.tick(4);
            Check.dueText("the same after its first gap", Check.all(x), Check.all(fresh));
        }
        RenewalClocks one = new RenewalClocks();
        one.clock(0, 9, 0, 0, 0);
        one.clock(0, 1, 0, 0, 0);
        one.undo();
        Check.due("next(0) after undo()", one.next(0), 0);
        Check.due("next(1) after undo()", one.next(1), Check.NOT_FOUND);
        Check.due("count(7) after undo()", one.count(7), 0);
        Check.due("tick(8) after undo()", one.tick(8), 0);
        Check.due("count(7) after undo()", one.count(7), 1);
        RenewalClocks x = new RenewalClocks();
        x.clock(0, 5, 0, 0, 0);
        x.clock(0, 5, 0, 0, 0);
        x.group(0);
        x.join(0, 0);
        x.join(0, 1);
        x.tick(5);
        Check.due("it met", x.groupOf(0, 4), 1);
        Check.due("undo()", x.undo() + x.undo() + x.undo() + x.undo(), 6);
        Check.due("group(2)", x.group(2), 0);
        int[] told = {2, 0, Check.NOT_FOUND, 0, 0, 0};
        for (int what = 0; what < told.length; what++) {
            Check.due("groupOf(0, " + what + ") after undo()", x.groupOf(0, what), told[what]);
        }
    }

    private static void textIsNotRestored() {
        RenewalClocks x = new RenewalClocks();
        x.tick(1);
        x.type('t');
        x.tick(1);
        x.type('5');
        Check.due("undo()", x.undo(), 1);
        Check.due("the length of the text", x.count(10), 2);
        x.type(';');
        Check.due("play()", x.play(), 1);
        Check.due("the tick", x.count(2), 6);
        x.clearText();
        Check.due("undo()", x.undo(), 1);
        Check.due("the length of the text", x.count(10), 0);
        Check.due("the tick", x.count(2), 1);
    }

    private static void answersAndErrorsAreNoChanges() {
        RenewalClocks x = Check.typed(hall(), "t5;w1;j0,0;");
        String before = Check.all(x);
        Check.due("clock", x.clock(1, 0, 0, 0, 0), Check.INVALID);
        Check.due("wind", x.wind(3), Check.INVALID);
        Check.due("tick", x.tick(201), Check.INVALID);
        Check.due("passenger", x.passenger(3), Check.INVALID);
        Check.due("group", x.group(3), Check.INVALID);
        Check.due("join", x.join(0, 1), Check.NOT_POSSIBLE);
        Check.due("leave", x.leave(0, 1), Check.NOT_POSSIBLE);
        Check.due("play", x.play(), Check.NOT_POSSIBLE);
        Check.due("type", x.type(127), Check.INVALID);
        Check.due("fault", x.fault(2), Check.NOT_POSSIBLE);
        Check.due("next", x.next(9), Check.NOT_FOUND);
        Check.dueText("errors and answers", Check.all(x), before);
        Check.due("count(9)", x.count(9), 4);
        x.undo();
        Check.due("the passenger is undone", x.count(5), 0);
        x = new RenewalClocks();
        for (int i = 0; i < 6; i++) {
            x.clock(1, 5, 6, 0, 0);
        }
        x.undo();
        x.clock(1, 5, 6, 0, 0);
        int drawn = x.count(3);
        Check.due("a 7th clock", x.clock(1, 5, 6, 0, 0), Check.LIMIT);
        Check.due("x is as before", x.count(3), drawn);
        Check.due("undo()", x.undo(), 3);
        Check.due("clocks", x.count(0), 5);
    }
}
