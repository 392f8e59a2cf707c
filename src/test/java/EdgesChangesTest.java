import java.util.ArrayList;
import java.util.List;
import java.util.function.Supplier;
import java.util.function.ToLongFunction;

/** The edges that "Changes and errors" and promise 17 name, sentence by sentence. */
public final class EdgesChangesTest {
    public static void main(String[] args) {
        changesAreKept();
        othersAreNotKept();
        refusedChangesAreNotKept();
        atMostFour();
        oldestIsDropped();
        everythingBeforeIt();
        butTheText();
        undoRemoves();
        undoOfNothing();
        changesBehindUndo();
        drawsAreUndone();
        invalidFirst();
        notPossibleBeforeLimit();
        limitBeforeNotFound();
        errorsChangeNothing();
        errorsInAFullHistory();
        noSuchClock();
        undoneClocksAreNone();
        undoneClocksLeaveNothing();
        undoneGroupsLeaveNothing();
        tallyIsUndone();
        constants();
        Check.end();
    }

    private static final class Call {
        private final String name;
        private final ToLongFunction<RenewalClocks> on;

        Call(String name, ToLongFunction<RenewalClocks> on) {
            this.name = name;
            this.on = on;
        }
    }

    /** Changes that are possible, one behind the other, in Halls.ofEachLaw. */
    private static List<Call> changes() {
        List<Call> changes = new ArrayList<>();
        changes.add(new Call("clock", x -> x.clock(1, 6, 7, 0, 0)));
        changes.add(new Call("wind", x -> x.wind(1)));
        changes.add(new Call("tick", x -> x.tick(1)));
        changes.add(new Call("passenger", x -> x.passenger(2)));
        changes.add(new Call("group", x -> x.group(0)));
        changes.add(new Call("join", x -> x.join(1, 1)));
        changes.add(new Call("leave", x -> x.leave(1, 1)));
        changes.add(new Call("play", RenewalClocks::play));
        return changes;
    }

    private static void changesAreKept() {
        Check.sentence("The changes are the calls of clock, wind, tick, passenger, group, join, leave and play that return no error");
        for (int states = 0; states <= 4; states++) {
            for (Call change : changes()) {
                RenewalClocks x = withStates(states, change.name.equals("leave"));
                String before = Check.all(x);
                Check.due("count(9) ahead of " + change.name, x.count(9), states);
                Check.dueTrue(change.name + " is possible", change.on.applyAsLong(x) >= 0);
                Check.due("count(9) behind " + change.name, x.count(9), Math.min(states + 1, 4));
                Check.due("undo() of " + change.name, x.undo(), Math.min(states, 3));
                Check.dueText("all behind undo() of " + change.name, Check.all(x), before);
            }
        }
    }

    /** The hall of each law, where the clock 1 is in the group 1 or not, with so many states, 0 to 4, in the history. */
    private static RenewalClocks withStates(int states, boolean joined) {
        RenewalClocks x = Halls.ofEachLaw();
        if (joined) {
            x.join(1, 1);
        }
        for (int i = 0; i < 4; i++) {
            x.tick(1);
        }
        for (int i = 0; i < 4; i++) {
            x.undo();
        }
        for (int i = 0; i < states; i++) {
            x.tick(1);
        }
        return x;
    }

    private static void othersAreNotKept() {
        Check.sentence("The changes are the calls of .. : no other call is one");
        List<Call> others = new ArrayList<>();
        others.add(new Call("clockOf", h -> h.clockOf(0, 5)));
        others.add(new Call("mean", h -> h.mean(0, 3)));
        others.add(new Call("groupOf", h -> h.groupOf(0, 1)));
        others.add(new Call("next", h -> h.next(0)));
        others.add(new Call("would", h -> h.would(0, 200, 2)));
        others.add(new Call("meets", h -> h.meets(0)));
        others.add(new Call("longer", RenewalClocks::longer));
        others.add(new Call("count", h -> h.count(9)));
        others.add(new Call("type", h -> h.type('t')));
        others.add(new Call("fault", h -> h.fault(1)));
        others.add(new Call("clearText", RenewalClocks::clearText));
        for (Call other : others) {
            RenewalClocks x = Halls.ofGaps(3, 4);
            x.group(0);
            String before = Check.all(x);
            other.on.applyAsLong(x);
            Check.due("count(9) behind " + other.name, x.count(9), 3);
            if (!other.name.equals("type") && !other.name.equals("clearText")) {
                Check.dueText("all behind " + other.name, Check.all(x), before);
            }
        }
    }

    private static void refusedChangesAreNotKept() {
        Check.sentence("calls .. that return no error");
        RenewalClocks x = new RenewalClocks();
        x.type('x');
        long[] answers = {
            x.clock(0, 0, 0, 0, 0), x.wind(0), x.tick(0), x.passenger(0), x.group(3), x.join(0, 0), x.leave(0, 0), x.play(),
        };
        for (int i = 0; i < answers.length; i++) {
            Check.due("the refused change " + i, answers[i], i == 7 ? Check.NOT_POSSIBLE : Check.INVALID);
        }
        Check.due("count(9)", x.count(9), 0);
        Check.due("undo()", x.undo(), Check.NOT_POSSIBLE);
    }

    private static void atMostFour() {
        Check.sentence("A history of at most 4 states is kept");
        int[] due = {0, 1, 2, 3, 4, 4, 4, 4, 4, 4};
        RenewalClocks x = new RenewalClocks();
        for (int changes = 0; changes < due.length; changes++) {
            Check.due("count(9) behind " + changes + " changes", x.count(9), due[changes]);
            x.tick(1);
        }
        for (int left = 3; left >= 0; left--) {
            Check.due("undo()", x.undo(), left);
            Check.due("count(9)", x.count(9), left);
        }
        Check.due("undo()", x.undo(), Check.NOT_POSSIBLE);
        Check.due("the tick, 4 of 10 are undone", x.count(2), 6);
    }

    private static void oldestIsDropped() {
        Check.sentence("if there are 5 states then, the oldest one is dropped");
        for (int changes = 1; changes <= 11; changes++) {
            RenewalClocks x = new RenewalClocks();
            for (int i = 1; i <= changes; i++) {
                x.tick(i);
            }
            int undone = 0;
            while (x.undo() >= 0) {
                undone++;
                int done = changes - undone;
                Check.due("the tick, " + undone + " of " + changes + " undone", x.count(2), done * (done + 1) / 2);
            }
            Check.due("states of " + changes + " changes", undone, Math.min(changes, 4));
        }
    }

    private static void everythingBeforeIt() {
        Check.sentence("each change records everything before it");
        List<Call> changes = changes();
        for (int last = 0; last < changes.size(); last++) {
            RenewalClocks x = Check.typed(Halls.ofEachLaw(), "t9;w0;");
            RenewalClocks twin = Check.typed(Halls.ofEachLaw(), "t9;w0;");
            for (int i = 0; i < last; i++) {
                changes.get(i).on.applyAsLong(x);
                changes.get(i).on.applyAsLong(twin);
            }
            Check.dueTrue(changes.get(last).name + " is possible", changes.get(last).on.applyAsLong(x) >= 0);
            Check.due("undo() of " + changes.get(last).name, x.undo(), 3);
            Check.dueText("undo() of " + changes.get(last).name, Check.all(x), Check.all(twin));
            long again = changes.get(last).on.applyAsLong(x);
            Check.due(changes.get(last).name + " again", again, changes.get(last).on.applyAsLong(twin));
            Check.dueText(changes.get(last).name + " again", Check.all(x), Check.all(twin));
        }
    }

    private static void butTheText() {
        Check.sentence("everything before it but the text");
        RenewalClocks x = Check.typed(new RenewalClocks(), "t1;");
        x.tick(5);
        x.type('t');
        x.undo();
        Check.due("count(10) behind undo()", x.count(10), 4);
        Check.due("fault(0) behind undo()", x.fault(0), 3);
        x.tick(5);
        x.clearText();
        x.undo();
        Check.due("count(10) behind undo() of a text that is emptied", x.count(10), 0);
        x = Check.typed(new RenewalClocks(), "t1;");
        x.play();
        x.undo();
        Check.due("count(10) behind undo() of play()", x.count(10), 3);
        x = Halls.full();
        x.undo();
        Check.due("count(10) behind undo(), 60 characters", x.count(10), 60);
        Check.due("type behind undo()", x.type('x'), Check.LIMIT);
    }

    private static void undoRemoves() {
        Check.sentence("undo: Restores the latest state of the history, which is removed from it; returns the number that are left");
        RenewalClocks x = Halls.full();
        int[] ticks = {13, 13, 13, 0};
        int[] winds = {1, 0, 0, 0};
        int[] passengers = {1, 1, 0, 0};
        for (int i = 0; i < 4; i++) {
            Check.due("undo()", x.undo(), 3 - i);
            Check.due("the tick", x.count(2), ticks[i]);
            Check.due("how often the clock 4 was wound", x.clockOf(4, 13), winds[i]);
            Check.due("passengers", x.count(5), passengers[i]);
        }
        Check.refused("undo() of an empty history", () -> {
            RenewalClocks undone = Halls.full();
            for (int i = 0; i < 4; i++) {
                undone.undo();
            }
            return undone;
        }, RenewalClocks::undo, Check.NOT_POSSIBLE);
    }

    private static void undoOfNothing() {
        Check.sentence("undo: NOT_POSSIBLE if it is empty");
        Check.refused("undo() of a new object", Halls::empty, RenewalClocks::undo, Check.NOT_POSSIBLE);
        Check.refused("undo() of a new object with a text", () -> Check.typed(Halls.empty(), "t1;"),
            RenewalClocks::undo, Check.NOT_POSSIBLE);
        RenewalClocks x = new RenewalClocks();
        x.tick(1);
        Check.due("undo() of one state", x.undo(), 0);
        Check.due("undo() of none", x.undo(), Check.NOT_POSSIBLE);
        Check.dueText("all is as in a new object", Check.everything(x), Check.everything(new RenewalClocks()));
    }

    private static void changesBehindUndo() {
        Check.sentence("the latest state, when changes were made behind undo()");
        RenewalClocks x = new RenewalClocks();
        for (int i = 0; i < 6; i++) {
            x.tick(10);
        }
        x.undo();
        x.undo();
        x.tick(1);
        Check.due("count(9)", x.count(9), 3);
        x.tick(2);
        x.tick(3);
        Check.due("count(9)", x.count(9), 4);
        int[] ticks = {43, 41, 40, 30};
        for (int i = 0; i < 4; i++) {
            Check.due("undo()", x.undo(), 3 - i);
            Check.due("the tick", x.count(2), ticks[i]);
        }
        Check.due("undo()", x.undo(), Check.NOT_POSSIBLE);
    }

    private static void drawsAreUndone() {
        Check.sentence("each change records everything before it: x too");
        RenewalClocks x = new RenewalClocks();
        x.clock(1, 11, 12, 13, 14);
        Check.due("x", x.count(3), 2084);
        Check.due("wind(0)", x.wind(0), 14);
        x.undo();
        Check.due("x behind undo()", x.count(3), 2084);
        Check.due("wind(0) draws the same again", x.wind(0), 14);
        x.undo();
        x.tick(11);
        Check.due("x behind a gap", x.count(3), 9027);
        x.undo();
        Check.due("x behind undo()", x.count(3), 2084);
        x.undo();
        Check.due("x of no draw", x.count(3), 1);
    }

    private static void invalidFirst() {
        Check.sentence("INVALID_ARGUMENT is returned rather than NOT_POSSIBLE, LIMIT_REACHED or NOT_FOUND");
        Supplier<RenewalClocks> full = Halls::full;
        Check.refused("clock, a wrong one of 7", full, x -> x.clock(0, 0, 0, 0, 0), Check.INVALID);
        Check.refused("clock, a wrong law of 7", full, x -> x.clock(3, 1, 1, 1, 0), Check.INVALID);
        Check.refused("clock, a wrong d of 7", full, x -> x.clock(2, 1, 1, 1, 1), Check.INVALID);
        Check.refused("group, a wrong one of 5", full, x -> x.group(3), Check.INVALID);
        Check.refused("join, no such clock, full", full, x -> x.join(0, 6), Check.INVALID);
        Check.refused("join, no such group, of another law", full, x -> x.join(4, 5), Check.INVALID);
        Check.refused("leave, no such clock, not in it", full, x -> x.leave(0, 6), Check.INVALID);
        Check.refused("leave, no such group, not in it", full, x -> x.leave(4, 4), Check.INVALID);
        Check.refused("type, a wrong one of 61", full, x -> x.type(127), Check.INVALID);
        Check.refused("fault, a wrong what without a fault", full, x -> x.fault(3), Check.INVALID);
        Check.refused("groupOf, a wrong what without clocks", full, x -> x.groupOf(2, 6), Check.INVALID);
        Check.refused("groupOf, no such group", full, x -> x.groupOf(4, 2), Check.INVALID);
        Check.refused("meets, no such group", full, x -> x.meets(4), Check.INVALID);
        Supplier<RenewalClocks> few = Halls::ofEachLaw;
        Check.refused("clockOf, no such clock, nothing told", few, x -> x.clockOf(3, 10), Check.INVALID);
        Check.refused("clockOf, a wrong what, nothing told", few, x -> x.clockOf(0, 14), Check.INVALID);
        Check.refused("mean, no such clock, nothing told", few, x -> x.mean(3, 0), Check.INVALID);
        Check.refused("mean, a wrong what, nothing told", few, x -> x.mean(0, 6), Check.INVALID);
        Check.refused("mean, a wrong what below, nothing told", few, x -> x.mean(0, -1), Check.INVALID);
        Supplier<RenewalClocks> none = Halls::empty;
        Check.refused("next, a wrong place without clocks", none, x -> x.next(-1), Check.INVALID);
        Check.refused("count, a wrong what without clocks", none, x -> x.count(11), Check.INVALID);
        Check.refused("would, all is wrong", none, x -> x.would(0, 0, 4), Check.INVALID);
        Supplier<RenewalClocks> last = () -> Halls.beforeLastTick(0, 5);
        Check.refused("tick(0) at the last tick", last, x -> x.tick(0), Check.INVALID);
        Check.refused("tick(201) at the last tick", last, x -> x.tick(201), Check.INVALID);
        Check.refused("tick(MAX) at the last tick", last, x -> x.tick(Integer.MAX_VALUE), Check.INVALID);
    }

    private static void notPossibleBeforeLimit() {
        Check.sentence("NOT_POSSIBLE rather than LIMIT_REACHED");
        Check.refused("join, of another law, full", Halls::full, x -> x.join(0, 5), Check.NOT_POSSIBLE);
        for (int clock = 0; clock < 4; clock++) {
            int c = clock;
            Check.refused("join, in it, full", Halls::full, x -> x.join(0, c), Check.NOT_POSSIBLE);
        }
        Check.refused("join, full alone", Halls::full, x -> x.join(0, 4), Check.LIMIT);
    }

    private static void limitBeforeNotFound() {
        Check.sentence("no call can return both LIMIT_REACHED and NOT_FOUND: each alone");
        Check.refused("a 7th clock", Halls::full, x -> x.clock(0, 1, 0, 0, 0), Check.LIMIT);
        Check.refused("a 5th group", Halls::full, x -> x.group(0), Check.LIMIT);
        Check.refused("a 61st character", Halls::full, x -> x.type(' '), Check.LIMIT);
        Check.refused("a tick beyond the last", () -> Halls.beforeLastTick(0, 5), x -> x.tick(1), Check.LIMIT);
        Check.refused("the longest of none", Halls::ofEachLaw, x -> x.clockOf(0, 10), Check.NOT_FOUND);
        for (int what = 0; what <= 2; what++) {
            int asked = what;
            Check.refused("a mean of none", Halls::ofEachLaw, x -> x.mean(0, asked), Check.NOT_FOUND);
        }
        Check.refused("the least rest of none", Halls::ofEachLaw, x -> x.groupOf(0, 2), Check.NOT_FOUND);
        Check.refused("the clock at the place 3 of 3", Halls::ofEachLaw, x -> x.next(3), Check.NOT_FOUND);
        Check.refused("a meeting of none", Halls::ofEachLaw, x -> x.meets(0), Check.NOT_FOUND);
        Check.refused("the greatest age of none", Halls::empty, x -> x.count(8), Check.NOT_FOUND);
        Check.refused("the fault of none", Halls::ofEachLaw, x -> x.fault(0), Check.NOT_FOUND);
    }

    private static void errorsChangeNothing() {
        Check.sentence("A call that returns an error changes nothing");
        List<Supplier<RenewalClocks>> halls = new ArrayList<>();
        halls.add(Halls::empty);
        halls.add(Halls::ofEachLaw);
        halls.add(Halls::full);
        halls.add(() -> Check.typed(Halls.full(), "t5;w5;c0,1,0,0,0;"));
        for (Supplier<RenewalClocks> hall : halls) {
            Check.refused("clock", hall, x -> x.clock(1, 0, 0, 0, 0), Check.INVALID);
            Check.refused("wind", hall, x -> x.wind(6), Check.INVALID);
            Check.refused("tick", hall, x -> x.tick(201), Check.INVALID);
            Check.refused("passenger", hall, x -> x.passenger(6), Check.INVALID);
            Check.refused("group", hall, x -> x.group(3), Check.INVALID);
            Check.refused("join", hall, x -> x.join(4, 0), Check.INVALID);
            Check.refused("leave", hall, x -> x.leave(4, 0), Check.INVALID);
            Check.refused("clockOf", hall, x -> x.clockOf(6, 0), Check.INVALID);
            Check.refused("mean", hall, x -> x.mean(6, 0), Check.INVALID);
            Check.refused("groupOf", hall, x -> x.groupOf(4, 0), Check.INVALID);
            Check.refused("next", hall, x -> x.next(6), Check.NOT_FOUND);
            Check.refused("would", hall, x -> x.would(6, 1, 0), Check.INVALID);
            Check.refused("meets", hall, x -> x.meets(4), Check.INVALID);
            Check.refused("count", hall, x -> x.count(11), Check.INVALID);
            Check.refused("type", hall, x -> x.type(31), Check.INVALID);
            Check.refused("fault", hall, x -> x.fault(3), Check.INVALID);
        }
        Check.refused("play", halls.get(3), RenewalClocks::play, Check.NOT_POSSIBLE);
        Check.refused("a 7th clock that would draw", Halls::full, x -> x.clock(1, 5, 6, 7, 8), Check.LIMIT);
    }

    private static void errorsInAFullHistory() {
        Check.sentence("A call that returns an error changes nothing: no state is dropped or recorded");
        RenewalClocks x = new RenewalClocks();
        for (int i = 1; i <= 6; i++) {
            x.tick(i);
            x.tick(0);
            x.wind(0);
            x.undo();
            x.tick(i);
            x.passenger(0);
            x.group(9);
        }
        int[] ticks = {15, 10, 6, 3};
        for (int i = 0; i < 4; i++) {
            x.clock(0, 0, 0, 0, 0);
            x.join(0, 0);
            Check.due("undo()", x.undo(), 3 - i);
            Check.due("the tick", x.count(2), ticks[i]);
        }
        x.leave(0, 0);
        Check.due("undo()", x.undo(), Check.NOT_POSSIBLE);
    }

    private static void noSuchClock() {
        Check.sentence("If there is no clock or group with a certain number, this is INVALID_ARGUMENT");
        int[] wrong = {-1, 3, 5, 6, 32, Integer.MAX_VALUE, Integer.MIN_VALUE};
        for (int clock : wrong) {
            Check.refused("wind(" + clock + ")", Halls::ofEachLaw, x -> x.wind(clock), Check.INVALID);
            Check.refused("passenger(" + clock + ")", Halls::ofEachLaw, x -> x.passenger(clock), Check.INVALID);
            Check.refused("clockOf(" + clock + ", 0)", Halls::ofEachLaw, x -> x.clockOf(clock, 0), Check.INVALID);
            Check.refused("mean(" + clock + ", 3)", Halls::ofEachLaw, x -> x.mean(clock, 3), Check.INVALID);
            Check.refused("would(" + clock + ", 1, 0)", Halls::ofEachLaw, x -> x.would(clock, 1, 0), Check.INVALID);
        }
        int[] beyondFull = {-1, 6, 7};
        for (int clock : beyondFull) {
            Check.refused("wind(" + clock + ") of 6", Halls::full, x -> x.wind(clock), Check.INVALID);
            Check.refused("passenger(" + clock + ") of 6", Halls::full, x -> x.passenger(clock), Check.INVALID);
            Check.refused("clockOf(" + clock + ", 0) of 6", Halls::full, x -> x.clockOf(clock, 0), Check.INVALID);
            Check.refused("mean(" + clock + ", 3) of 6", Halls::full, x -> x.mean(clock, 3), Check.INVALID);
            Check.refused("would(" + clock + ", 1, 0) of 6", Halls::full, x -> x.would(clock, 1, 0), Check.INVALID);
        }
        RenewalClocks x = Halls.full();
        Check.dueTrue("the lowest and the highest clock are there", x.clockOf(0, 0) == 0 && x.clockOf(5, 0) == 1);
        Check.dueTrue("they can be wound", x.wind(0) > 0 && x.wind(5) > 0);
        Check.dueTrue("they take passengers", x.passenger(0) > 0 && x.passenger(5) > 0);
        Check.dueTrue("they would tell", x.would(0, 200, 2) > 0 && x.would(5, 200, 2) > 0);
        Check.dueTrue("they have means", x.mean(0, 3) > 0 && x.mean(5, 3) > 0);
    }

    private static void undoneClocksAreNone() {
        Check.sentence("If there is no clock or group with a certain number, as they are undone");
        Supplier<RenewalClocks> undone = () -> {
            RenewalClocks x = Halls.ofGaps(3, 4);
            x.group(0);
            x.join(0, 1);
            x.undo();
            x.undo();
            x.undo();
            return x;
        };
        Check.refused("wind(1)", undone, x -> x.wind(1), Check.INVALID);
        Check.refused("passenger(1)", undone, x -> x.passenger(1), Check.INVALID);
        Check.refused("clockOf(1, 0)", undone, x -> x.clockOf(1, 0), Check.INVALID);
        Check.refused("mean(1, 3)", undone, x -> x.mean(1, 3), Check.INVALID);
        Check.refused("would(1, 1, 0)", undone, x -> x.would(1, 1, 0), Check.INVALID);
        Check.refused("next(1)", undone, x -> x.next(1), Check.NOT_FOUND);
        Check.refused("groupOf(0, 0)", undone, x -> x.groupOf(0, 0), Check.INVALID);
        Check.refused("meets(0)", undone, x -> x.meets(0), Check.INVALID);
        Check.refused("join(0, 0)", undone, x -> x.join(0, 0), Check.INVALID);
        Check.refused("leave(0, 0)", undone, x -> x.leave(0, 0), Check.INVALID);
        RenewalClocks x = undone.get();
        x.group(0);
        Check.due("groupOf(0, 1) of a group that comes anew", x.groupOf(0, 1), 0);
        Check.due("join(0, 1) of a clock that is undone", x.join(0, 1), Check.INVALID);
    }

    private static void undoneClocksLeaveNothing() {
        Check.sentence("undo: a clock that comes in the stead of one that is undone has nothing of it");
        RenewalClocks x = Check.typed(Halls.ofGaps(9), "c0,8,0,0,0;p1;w1;t23;p1;");
        Check.due("play()", x.play(), 5);
        Check.due("the rest of the clock 1", x.clockOf(1, 7), 1);
        x.undo();
        Check.due("count(7)", x.count(7), 0);
        Check.due("count(8)", x.count(8), 0);
        for (int what = 4; what <= 6; what++) {
            Check.due("count(" + what + ")", x.count(what), 0);
        }
        Check.dueDouble("longer()", x.longer(), 0.0);
        Check.due("next(1)", x.next(1), Check.NOT_FOUND);
        Check.due("tick(3)", x.tick(3), 0);
        Check.due("the clock 1 anew", x.clock(2, 4, 1, 5, 0), 1);
        int[] due = {2, 4, 1, 5, 0, 4, 0, 4, 0, 0, Check.NOT_FOUND, 0, 0, 0};
        for (int what = 0; what < due.length; what++) {
            Check.due("clockOf(1, " + what + ")", x.clockOf(1, what), due[what]);
        }
        for (int what = 0; what <= 2; what++) {
            Check.due("mean(1, " + what + ")", x.mean(1, what), Check.NOT_FOUND);
        }
        x.tick(4);
        Check.due("the longest is its own", x.clockOf(1, 10), 4);
        Check.dueDouble("the wait is its own", x.mean(1, 2), 10.0 / 4.0);
        Check.due("its next gap", x.clockOf(1, 5), 5);
    }

    private static void undoneGroupsLeaveNothing() {
        Check.sentence("undo: a group that comes in the stead of one that is undone has nothing of it");
        RenewalClocks x = Halls.groupOfGaps(2, 2);
        x.tick(9);
        Check.due("it met", x.groupOf(0, 4), 4);
        for (int i = 0; i < 4; i++) {
            x.undo();
        }
        Check.due("groupOf(0, 4)", x.groupOf(0, 4), Check.INVALID);
        Check.due("group(0)", x.group(0), 0);
        int[] due = {0, 0, Check.NOT_FOUND, 0, 0, 0};
        for (int what = 0; what < due.length; what++) {
            Check.due("groupOf(0, " + what + ")", x.groupOf(0, what), due[what]);
        }
        Check.due("join(0, 1)", x.join(0, 1), 1);
    }

    private static void tallyIsUndone() {
        Check.sentence("each change records everything before it: what clocks and groups told");
        RenewalClocks x = new RenewalClocks();
        x.clock(0, 5, 50, 0, 0);
        x.clock(0, 5, 50, 0, 0);
        x.group(0);
        x.join(0, 0);
        x.join(0, 1);
        x.tick(5);
        String before = Check.all(x);
        x.tick(50);
        Check.due("the longest", x.clockOf(0, 10), 50);
        Check.due("gaps told in the group", x.groupOf(0, 3), 4);
        Check.due("how often it met", x.groupOf(0, 4), 2);
        x.undo();
        Check.due("the longest, undone", x.clockOf(0, 10), 5);
        Check.due("gaps told in the group, undone", x.groupOf(0, 3), 2);
        Check.due("how often it met, undone", x.groupOf(0, 4), 1);
        Check.dueText("all is undone", Check.all(x), before);
    }

    private static void constants() {
        Check.sentence("The constants");
        Check.due("INVALID_ARGUMENT", RenewalClocks.INVALID_ARGUMENT, -1000001);
        Check.due("NOT_POSSIBLE", RenewalClocks.NOT_POSSIBLE, -1000002);
        Check.due("LIMIT_REACHED", RenewalClocks.LIMIT_REACHED, -1000003);
        Check.due("NOT_FOUND", RenewalClocks.NOT_FOUND, -1000004);
    }
}
