/** Promises 6 to 8: group, join, leave; with promises 11 and 14, which tell of groups. */
public final class GroupsTest {
    public static void main(String[] args) {
        groups();
        join();
        joinErrors();
        leave();
        told();
        meetings();
        leastRest();
        meets();
        meetsTriesOutAllClocks();
        groupOfErrors();
        Check.end();
    }

    private static void groups() {
        RenewalClocks x = new RenewalClocks();
        Check.due("group(-1)", x.group(-1), Check.INVALID);
        Check.due("group(3)", x.group(3), Check.INVALID);
        Check.due("group(MAX)", x.group(Integer.MAX_VALUE), Check.INVALID);
        Check.due("group(2)", x.group(2), 0);
        Check.due("group(0)", x.group(0), 1);
        Check.due("group(1)", x.group(1), 2);
        Check.due("group(1)", x.group(1), 3);
        Check.due("a 5th group", x.group(1), Check.LIMIT);
        Check.due("a wrong 5th group", x.group(3), Check.INVALID);
        Check.due("count(1)", x.count(1), 4);
        int[] laws = {2, 0, 1, 1};
        for (int group = 0; group < 4; group++) {
            int[] told = {laws[group], 0, Check.NOT_FOUND, 0, 0, 0};
            for (int what = 0; what < told.length; what++) {
                Check.due("groupOf(" + group + ", " + what + ")", x.groupOf(group, what), told[what]);
            }
        }
    }

    /** Six clocks in turn of the gap 4 and a group of their law. */
    private static RenewalClocks six() {
        RenewalClocks x = new RenewalClocks();
        for (int i = 0; i < 6; i++) {
            x.clock(0, 4, 0, 0, 0);
        }
        x.group(0);
        return x;
    }

    private static void join() {
        RenewalClocks x = six();
        Check.due("join(0, 5)", x.join(0, 5), 1);
        Check.due("join(0, 1)", x.join(0, 1), 2);
        Check.due("join(0, 3)", x.join(0, 3), 3);
        Check.due("join(0, 0)", x.join(0, 0), 4);
        Check.due("groupOf(0, 1)", x.groupOf(0, 1), 32 + 2 + 8 + 1);
        Check.due("a 5th clock", x.join(0, 2), Check.LIMIT);
        Check.due("one that is in it, of a full group", x.join(0, 3), Check.NOT_POSSIBLE);
        Check.due("group(0)", x.group(0), 1);
        Check.due("join(1, 3)", x.join(1, 3), 1);
        Check.due("groupOf(1, 1)", x.groupOf(1, 1), 8);
        Check.due("groupOf(0, 1)", x.groupOf(0, 1), 43);
    }

    private static void joinErrors() {
        RenewalClocks x = new RenewalClocks();
        x.clock(0, 4, 0, 0, 0);
        x.clock(1, 4, 0, 0, 0);
        x.clock(2, 4, 4, 4, 0);
        x.group(0);
        x.group(1);
        x.group(2);
        for (int group = 0; group < 3; group++) {
            for (int clock = 0; clock < 3; clock++) {
                Check.due("join(" + group + ", " + clock + ")", x.join(group, clock), group == clock ? 1 : Check.NOT_POSSIBLE);
            }
        }
        int[] wrong = {-1, 3, 32, Integer.MAX_VALUE, Integer.MIN_VALUE};
        for (int number : wrong) {
            Check.due("join(" + number + ", 0)", x.join(number, 0), Check.INVALID);
            Check.due("join(0, " + number + ")", x.join(0, number), Check.INVALID);
            Check.due("leave(" + number + ", 0)", x.leave(number, 0), Check.INVALID);
            Check.due("leave(0, " + number + ")", x.leave(0, number), Check.INVALID);
        }
        Check.due("count(9)", x.count(9), 4);
        for (int i = 0; i < 3; i++) {
            Check.due("leave(" + i + ", " + (i + 1) % 3 + ")", x.leave(i, (i + 1) % 3), Check.NOT_POSSIBLE);
            Check.due("groupOf(" + i + ", 1)", x.groupOf(i, 1), 1 << i);
        }
    }

    private static void leave() {
        RenewalClocks x = six();
        x.join(0, 5);
        x.join(0, 1);
        x.join(0, 3);
        Check.due("leave(0, 1)", x.leave(0, 1), 2);
        Check.due("leave(0, 1)", x.leave(0, 1), Check.NOT_POSSIBLE);
        Check.due("groupOf(0, 1)", x.groupOf(0, 1), 40);
        Check.due("join(0, 1)", x.join(0, 1), 3);
        Check.due("leave(0, 5)", x.leave(0, 5), 2);
        Check.due("leave(0, 3)", x.leave(0, 3), 1);
        Check.due("leave(0, 1)", x.leave(0, 1), 0);
        Check.due("groupOf(0, 1)", x.groupOf(0, 1), 0);
        Check.due("groupOf(0, 2)", x.groupOf(0, 2), Check.NOT_FOUND);
    }

    private static void told() {
        RenewalClocks x = new RenewalClocks();
        x.clock(0, 3, 0, 0, 0);
        x.clock(0, 5, 0, 0, 0);
        x.group(0);
        x.group(0);
        x.tick(15);
        x.join(0, 0);
        Check.due("gaps told while in it", x.groupOf(0, 3), 0);
        Check.due("lengths told wherever", x.groupOf(0, 5), 15);
        x.tick(15);
        x.join(0, 1);
        x.join(1, 1);
        x.tick(5);
        Check.due("gaps told while in it", x.groupOf(0, 3), 5 + 1 + 1);
        Check.due("lengths told wherever", x.groupOf(0, 5), 33 + 35);
        Check.due("gaps told while in the other", x.groupOf(1, 3), 1);
        Check.due("lengths told wherever, of the other", x.groupOf(1, 5), 35);
        x.leave(0, 1);
        // what a clock told while it was in the group stays told
        Check.due("gaps told, after one left", x.groupOf(0, 3), 7);
        Check.due("lengths told, after one left", x.groupOf(0, 5), 33);
        x.tick(10);
        Check.due("gaps told, after one left", x.groupOf(0, 3), 11);
        x.leave(0, 0);
        x.tick(10);
        Check.due("gaps told, after all left", x.groupOf(0, 3), 11);
        Check.due("lengths told, after all left", x.groupOf(0, 5), 0);
    }

    private static void meetings() {
        RenewalClocks x = new RenewalClocks();
        x.clock(0, 2, 0, 0, 0);
        x.clock(0, 3, 0, 0, 0);
        x.clock(0, 6, 0, 0, 0);
        x.group(0);
        x.group(0);
        x.join(0, 0);
        x.tick(6);
        Check.due("one clock alone", x.groupOf(0, 4), 0);
        x.join(0, 1);
        x.tick(5);
        Check.due("one at a time", x.groupOf(0, 4), 0);
        x.tick(1);
        Check.due("two at once", x.groupOf(0, 4), 1);
        x.join(0, 2);
        x.join(1, 2);
        x.join(1, 0);
        x.tick(6);
        Check.due("three at once are one meeting", x.groupOf(0, 4), 2);
        Check.due("the other group", x.groupOf(1, 4), 1);
        x.leave(0, 0);
        x.leave(0, 1);
        x.tick(12);
        Check.due("how often it met stays", x.groupOf(0, 4), 2);
        Check.due("the other group", x.groupOf(1, 4), 3);
    }

    private static void leastRest() {
        RenewalClocks x = new RenewalClocks();
        x.clock(0, 9, 0, 0, 0);
        x.clock(0, 7, 0, 0, 0);
        x.clock(0, 2, 0, 0, 0);
        x.group(0);
        x.join(0, 0);
        Check.due("groupOf(0, 2)", x.groupOf(0, 2), 9);
        x.join(0, 1);
        Check.due("groupOf(0, 2)", x.groupOf(0, 2), 7);
        x.tick(6);
        Check.due("groupOf(0, 2)", x.groupOf(0, 2), 1);
        x.tick(1);
        Check.due("groupOf(0, 2)", x.groupOf(0, 2), 2);
    }

    private static void meets() {
        RenewalClocks x = new RenewalClocks();
        x.clock(0, 4, 0, 0, 0);
        x.clock(0, 50, 0, 0, 0);
        x.clock(0, 49, 0, 0, 0);
        x.group(0);
        Check.due("meets(0) without clocks", x.meets(0), Check.NOT_FOUND);
        x.join(0, 0);
        Check.due("meets(0) with one", x.meets(0), Check.NOT_FOUND);
        x.join(0, 1);
        Check.due("meets(0)", x.meets(0), 100);
        x.tick(99);
        Check.due("meets(0)", x.meets(0), 1);
        x.tick(1);
        Check.due("meets(0)", x.meets(0), 100);
        Check.due("it met once", x.groupOf(0, 4), 1);
        Check.due("meets(1)", x.meets(1), Check.INVALID);
        Check.due("meets(-1)", x.meets(-1), Check.INVALID);
        Check.due("meets(MIN)", x.meets(Integer.MIN_VALUE), Check.INVALID);
        x = new RenewalClocks();
        x.clock(0, 8, 0, 0, 0);
        x.clock(0, 25, 0, 0, 0);
        x.group(0);
        x.join(0, 0);
        x.join(0, 1);
        Check.due("meets(0) at the last tick", x.meets(0), 200);
        x.tick(200);
        Check.due("meets(0) at the last tick again", x.meets(0), 200);
        x = new RenewalClocks();
        x.clock(0, 3, 0, 0, 0);
        x.clock(0, 1, 50, 50, 50);
        x.clock(0, 50, 0, 0, 0);
        x.group(0);
        x.join(0, 1);
        x.join(0, 2);
        // 1, 51, 101, 151, 152, 202 and 50, 100, 150, 200
        Check.due("meets(0) not within 200", x.meets(0), Check.NOT_FOUND);
    }

    private static void meetsTriesOutAllClocks() {
        RenewalClocks x = new RenewalClocks();
        x.clock(1, 1, 9, 20, 4);
        x.clock(1, 7, 11, 5, 2);
        x.clock(1, 3, 8, 0, 0);
        x.group(1);
        x.join(0, 1);
        x.join(0, 2);
        int due = x.meets(0);
        Check.due("x is as before", x.count(3), 2030);
        Check.dueTrue("it meets within 200", due > 0 && due <= 200);
        for (int i = 1; i < due; i++) {
            x.tick(1);
            Check.due("it has not met yet", x.groupOf(0, 4), 0);
        }
        x.tick(1);
        Check.due("it has met", x.groupOf(0, 4), 1);
    }

    private static void groupOfErrors() {
        RenewalClocks x = new RenewalClocks();
        Check.due("groupOf(0, 0)", x.groupOf(0, 0), Check.INVALID);
        x.group(0);
        int[] wrong = {-1, 6, Integer.MAX_VALUE, Integer.MIN_VALUE};
        for (int what : wrong) {
            Check.due("groupOf(0, " + what + ")", x.groupOf(0, what), Check.INVALID);
        }
        Check.due("groupOf(-1, 0)", x.groupOf(-1, 0), Check.INVALID);
        Check.due("groupOf(1, 2)", x.groupOf(1, 2), Check.INVALID);
        Check.due("groupOf(0, 2)", x.groupOf(0, 2), Check.NOT_FOUND);
        x.undo();
        Check.due("groupOf(0, 0) after undo()", x.groupOf(0, 0), Check.INVALID);
    }
}
