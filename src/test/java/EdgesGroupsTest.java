/** The edges that "Terms" and the promises 6 to 8, 11 and 14 name for groups, sentence by sentence. */
public final class EdgesGroupsTest {
    public static void main(String[] args) {
        fourGroups();
        lawsOfGroups();
        fourClocks();
        roomAgain();
        ofTheLawAlone();
        inSeveral();
        twiceInOne();
        leaving();
        twoOrMore();
        twoOfTheGroup();
        meetsAtEachTick();
        restOfTheGroup();
        toldWhileInIt();
        toldWherever();
        metStays();
        meetsNext();
        meetsAtTheEdgeOf200();
        meetsOfFewClocks();
        noSuchGroup();
        Check.end();
    }

    private static void fourGroups() {
        Check.sentence("There are at most 4 groups, numbered from 0");
        RenewalClocks x = new RenewalClocks();
        for (int group = 0; group < 4; group++) {
            Check.due("count(1)", x.count(1), group);
            Check.due("the group " + group, x.group(group % 3), group);
        }
        Check.due("a 5th group", x.group(1), Check.LIMIT);
        Check.due("count(1)", x.count(1), 4);
        x.undo();
        Check.due("a 4th group again", x.group(2), 3);
        Check.due("its law", x.groupOf(3, 0), 2);
        for (int law = 0; law <= 2; law++) {
            int newLaw = law;
            Check.refused("a 5th group of the law " + law, Halls::full, h -> h.group(newLaw), Check.LIMIT);
        }
    }

    private static void lawsOfGroups() {
        Check.sentence("group: law 0 to 2");
        int[] wrong = {-1, 3, Integer.MAX_VALUE, Integer.MIN_VALUE};
        for (int law : wrong) {
            Check.refused("group(" + law + ")", Halls::ofEachLaw, x -> x.group(law), Check.INVALID);
            Check.refused("group(" + law + "), where all are there", Halls::full, x -> x.group(law), Check.INVALID);
        }
        for (int law = 0; law <= 2; law++) {
            RenewalClocks x = new RenewalClocks();
            Check.due("group(" + law + ")", x.group(law), 0);
            Check.due("groupOf(0, 0)", x.groupOf(0, 0), law);
            Check.due("groupOf(0, 1), nothing in it yet", x.groupOf(0, 1), 0);
        }
    }

    private static void fourClocks() {
        Check.sentence("with room for 4 clocks");
        for (int law = 0; law <= 2; law++) {
            RenewalClocks x = new RenewalClocks();
            for (int clock = 0; clock < 6; clock++) {
                x.clock(law, 5, 5, 5, 0);
            }
            x.group(law);
            for (int i = 0; i < 4; i++) {
                Check.due("join(0, " + (5 - i) + ")", x.join(0, 5 - i), i + 1);
            }
            Check.due("a 5th clock", x.join(0, 0), Check.LIMIT);
            Check.due("another 5th clock", x.join(0, 1), Check.LIMIT);
            Check.due("the clocks", x.groupOf(0, 1), 4 + 8 + 16 + 32);
        }
        Check.refused("join(0, 4), a 5th clock", Halls::full, x -> x.join(0, 4), Check.LIMIT);
    }

    private static void roomAgain() {
        Check.sentence("with room for 4 clocks, when one left or a join is undone");
        RenewalClocks x = Halls.full();
        Check.due("leave(0, 2)", x.leave(0, 2), 3);
        Check.due("join(0, 4)", x.join(0, 4), 4);
        Check.due("join(0, 2)", x.join(0, 2), Check.LIMIT);
        Check.due("undo()", x.undo(), 3);
        Check.due("join(0, 2)", x.join(0, 2), 4);
        Check.due("the clocks", x.groupOf(0, 1), 15);
    }

    private static void ofTheLawAlone() {
        Check.sentence("Only a clock of the group's law can join it");
        for (int group = 0; group < 3; group++) {
            for (int clock = 0; clock < 3; clock++) {
                int g = group;
                int c = clock;
                if (g == c) {
                    Check.due("join(" + g + ", " + c + ")", Halls.ofEachLaw().join(g, c), 1);
                } else {
                    Check.refused("join(" + g + ", " + c + ")", Halls::ofEachLaw, x -> x.join(g, c), Check.NOT_POSSIBLE);
                }
            }
        }
        Check.refused("join(0, 5) of another law, where it is full", Halls::full, x -> x.join(0, 5), Check.NOT_POSSIBLE);
    }

    private static void inSeveral() {
        Check.sentence("it can be in several");
        RenewalClocks x = Halls.ofGaps(5);
        for (int group = 0; group < 4; group++) {
            x.group(0);
            Check.due("join(" + group + ", 0)", x.join(group, 0), 1);
        }
        x.tick(5);
        for (int group = 0; group < 4; group++) {
            Check.due("gaps told in the group " + group, x.groupOf(group, 3), 1);
        }
        x.leave(2, 0);
        int[] sets = {1, 1, 0, 1};
        for (int group = 0; group < 4; group++) {
            Check.due("groupOf(" + group + ", 1)", x.groupOf(group, 1), sets[group]);
        }
    }

    private static void twiceInOne() {
        Check.sentence("join: NOT_POSSIBLE if the clock is in it");
        Check.refused("join(0, 0) of one that is in it", () -> Halls.groupOfGaps(4, 5), x -> x.join(0, 0), Check.NOT_POSSIBLE);
        for (int clock = 0; clock < 4; clock++) {
            int c = clock;
            Check.refused("join(0, " + c + ") of a full group", Halls::full, x -> x.join(0, c), Check.NOT_POSSIBLE);
        }
        RenewalClocks x = Halls.groupOfGaps(4, 5);
        x.leave(0, 0);
        Check.due("join(0, 0) of one that left", x.join(0, 0), 2);
    }

    private static void leaving() {
        Check.sentence("leave: NOT_POSSIBLE if the clock is not in it");
        Check.refused("leave(0, 0), nothing in it yet", Halls::ofEachLaw, x -> x.leave(0, 0), Check.NOT_POSSIBLE);
        Check.refused("leave(0, 1), of another law", Halls::ofEachLaw, x -> x.leave(0, 1), Check.NOT_POSSIBLE);
        Check.refused("leave(0, 4), of another group", Halls::full, x -> x.leave(0, 4), Check.NOT_POSSIBLE);
        Check.refused("leave(3, 0), of another group", Halls::full, x -> x.leave(3, 0), Check.NOT_POSSIBLE);
        Check.sentence("leave: returns how many clocks the group has then");
        RenewalClocks x = Halls.full();
        for (int left = 3; left >= 0; left--) {
            Check.due("leave(0, " + left + ")", x.leave(0, left), left);
            Check.due("groupOf(0, 1)", x.groupOf(0, 1), (1 << left) - 1);
        }
        Check.due("leave(0, 0) again", x.leave(0, 0), Check.NOT_POSSIBLE);
    }

    private static void twoOrMore() {
        Check.sentence("A group meets when a tick ends at which two of its clocks or more have told a gap");
        int[][] gaps = {{}, {3}, {3, 7}, {3, 3}, {3, 3, 7}, {3, 3, 3}, {3, 3, 7, 7}, {3, 3, 3, 3}};
        int[] met = {0, 0, 0, 1, 1, 1, 1, 1};
        int[] told = {0, 1, 1, 2, 2, 3, 2, 4};
        for (int i = 0; i < gaps.length; i++) {
            RenewalClocks x = Halls.groupOfGaps(gaps[i]);
            x.tick(2);
            Check.due("met before, " + gaps[i].length + " clocks", x.groupOf(0, 4), 0);
            x.tick(1);
            Check.due("met, " + told[i] + " of " + gaps[i].length, x.groupOf(0, 4), met[i]);
            Check.due("gaps told, " + gaps[i].length + " clocks", x.groupOf(0, 3), told[i]);
        }
    }

    private static void twoOfTheGroup() {
        Check.sentence("two of its clocks");
        RenewalClocks x = Halls.ofGaps(3, 3, 3, 3, 3, 3);
        x.group(0);
        x.group(0);
        x.join(0, 0);
        x.join(1, 4);
        x.join(1, 5);
        x.tick(3);
        Check.due("the group of one, where all tell", x.groupOf(0, 4), 0);
        Check.due("the group of two", x.groupOf(1, 4), 1);
        x.join(0, 5);
        x.tick(2);
        Check.due("the group of two then, not met yet", x.groupOf(0, 4), 0);
        x.tick(1);
        Check.due("the group of two then", x.groupOf(0, 4), 1);
        x.leave(0, 0);
        x.tick(3);
        Check.due("the group of one again", x.groupOf(0, 4), 1);
        Check.due("the group of two", x.groupOf(1, 4), 3);
    }

    private static void meetsAtEachTick() {
        Check.sentence("when a tick ends: two ticks one behind the other are no meeting, and each of 200 ticks can be one");
        RenewalClocks x = Halls.groupOfGaps(3, 4);
        x.tick(11);
        Check.due("told at 3, 4, 6, 8, 9", x.groupOf(0, 4), 0);
        x.tick(1);
        Check.due("both told at 12", x.groupOf(0, 4), 1);
        x = Halls.groupOfGaps(1, 1);
        x.tick(200);
        Check.due("met at 200 ticks", x.groupOf(0, 4), 200);
        Check.due("gaps told", x.groupOf(0, 3), 400);
        x = new RenewalClocks();
        x.clock(0, 4, 1, 0, 0);
        x.clock(0, 4, 0, 0, 0);
        x.group(0);
        x.join(0, 0);
        x.join(0, 1);
        x.wind(0);
        x.tick(3);
        Check.due("told at 1", x.groupOf(0, 4), 0);
        x.wind(1);
        x.tick(2);
        Check.due("told at 5, a broken off gap is not told", x.groupOf(0, 4), 0);
    }

    private static void restOfTheGroup() {
        Check.sentence("groupOf 2: the least rest of its clocks; NOT_FOUND without clocks");
        RenewalClocks x = Halls.ofGaps(1, 50, 49, 50);
        x.group(0);
        Check.due("groupOf(0, 2) without clocks", x.groupOf(0, 2), Check.NOT_FOUND);
        x.join(0, 1);
        Check.due("groupOf(0, 2), the longest", x.groupOf(0, 2), 50);
        x.join(0, 2);
        Check.due("groupOf(0, 2), one less", x.groupOf(0, 2), 49);
        x.join(0, 3);
        Check.due("groupOf(0, 2)", x.groupOf(0, 2), 49);
        x.tick(48);
        Check.due("groupOf(0, 2), the shortest", x.groupOf(0, 2), 1);
        x.tick(1);
        Check.due("groupOf(0, 2), behind it", x.groupOf(0, 2), 1);
        x.leave(0, 1);
        x.leave(0, 3);
        Check.due("groupOf(0, 2), begun anew", x.groupOf(0, 2), 49);
        x.join(0, 0);
        Check.due("groupOf(0, 2), with a gap of 1", x.groupOf(0, 2), 1);
        x.leave(0, 0);
        x.leave(0, 2);
        Check.due("groupOf(0, 2), all left", x.groupOf(0, 2), Check.NOT_FOUND);
        Check.refused("groupOf(2, 2) without clocks", Halls::full, h -> h.groupOf(2, 2), Check.NOT_FOUND);
    }

    private static void toldWhileInIt() {
        Check.sentence("groupOf 3: gaps that its clocks told so far while they were in it");
        RenewalClocks x = Halls.ofGaps(4, 6);
        x.group(0);
        Check.due("nothing yet", x.groupOf(0, 3), 0);
        x.tick(3);
        x.join(0, 0);
        Check.due("joined one tick before it tells", x.groupOf(0, 3), 0);
        x.tick(1);
        Check.due("at the tick at which it tells", x.groupOf(0, 3), 1);
        x.join(0, 1);
        Check.due("what one told before it joined is not counted", x.groupOf(0, 3), 1);
        x.tick(2);
        Check.due("the other one told", x.groupOf(0, 3), 2);
        x.leave(0, 1);
        x.tick(6);
        Check.due("one left: told at 8 and 12 by the clock 0", x.groupOf(0, 3), 4);
        x.wind(0);
        Check.due("a gap that is broken off", x.groupOf(0, 3), 4);
        x = Halls.groupOfGaps(1, 1, 1, 1);
        x.tick(200);
        Check.due("four at each of 200 ticks", x.groupOf(0, 3), 800);
    }

    private static void toldWherever() {
        Check.sentence("groupOf 5: the sum of the lengths of the gaps that its clocks told so far, wherever they were");
        RenewalClocks x = Halls.ofGaps(4, 6);
        x.group(0);
        x.tick(12);
        Check.due("no clock is in it", x.groupOf(0, 5), 0);
        x.join(0, 0);
        Check.due("told before it joined", x.groupOf(0, 5), 12);
        x.tick(3);
        Check.due("a gap that runs", x.groupOf(0, 5), 12);
        x.tick(1);
        Check.due("a gap told", x.groupOf(0, 5), 16);
        x.join(0, 1);
        Check.due("with the other one", x.groupOf(0, 5), 28);
        x.leave(0, 0);
        Check.due("one left", x.groupOf(0, 5), 12);
    }

    private static void metStays() {
        Check.sentence("groupOf 4: how often it met so far");
        RenewalClocks x = Halls.groupOfGaps(5, 5);
        x.tick(5);
        x.leave(0, 0);
        x.leave(0, 1);
        Check.due("all left", x.groupOf(0, 4), 1);
        x.tick(5);
        Check.due("nobody is in it", x.groupOf(0, 4), 1);
        x.undo();
        x.undo();
        x.undo();
        x.tick(5);
        Check.due("undone and met again", x.groupOf(0, 4), 2);
        x.undo();
        x.undo();
        Check.due("the meeting is undone", x.groupOf(0, 4), 0);
    }

    private static void meetsNext() {
        Check.sentence("meets: at the end of how many ticks a group meets for the next time");
        RenewalClocks x = Halls.groupOfGaps(1, 1);
        Check.due("meets(0) at the next tick", x.meets(0), 1);
        x.tick(1);
        Check.due("meets(0) when it has met", x.meets(0), 1);
        x = Halls.groupOfGaps(6, 6, 3);
        Check.due("meets(0)", x.meets(0), 6);
        x.tick(5);
        Check.due("meets(0)", x.meets(0), 1);
        x.tick(1);
        Check.due("meets(0) when it has met", x.meets(0), 6);
        Check.due("meets(0) does not let ticks end", x.count(2), 6);
        Check.due("meets(0) does not count", x.groupOf(0, 4), 1);
        x = Halls.beforeLastTick(0, 5, 5);
        x.group(0);
        x.join(0, 0);
        x.join(0, 1);
        Check.due("meets(0) at the tick 99999", x.meets(0), 1);
    }

    private static void meetsAtTheEdgeOf200() {
        Check.sentence("meets: NOT_FOUND if it does not within 200");
        RenewalClocks x = Halls.groupOfGaps(7, 29);
        Check.due("meets(0), 203 ahead", x.meets(0), Check.NOT_FOUND);
        x.tick(2);
        Check.due("meets(0), 201 ahead", x.meets(0), Check.NOT_FOUND);
        x.tick(1);
        Check.due("meets(0), 200 ahead", x.meets(0), 200);
        x.tick(1);
        Check.due("meets(0), 199 ahead", x.meets(0), 199);
        x.tick(198);
        Check.due("meets(0), 1 ahead", x.meets(0), 1);
        x.tick(1);
        Check.due("it met", x.groupOf(0, 4), 1);
        Check.due("meets(0), 203 ahead again", x.meets(0), Check.NOT_FOUND);
        Check.refused("meets(0)", () -> Halls.groupOfGaps(7, 29), h -> h.meets(0), Check.NOT_FOUND);
    }

    private static void meetsOfFewClocks() {
        Check.sentence("meets: two of its clocks or more");
        RenewalClocks x = Halls.ofGaps(1, 1);
        x.group(0);
        Check.due("meets(0) without clocks", x.meets(0), Check.NOT_FOUND);
        x.join(0, 0);
        Check.due("meets(0) of one clock", x.meets(0), Check.NOT_FOUND);
        x.join(0, 1);
        Check.due("meets(0) of two clocks", x.meets(0), 1);
        x.leave(0, 0);
        Check.due("meets(0) of one clock again", x.meets(0), Check.NOT_FOUND);
    }

    private static void noSuchGroup() {
        Check.sentence("If there is no clock or group with a certain number, this is INVALID_ARGUMENT");
        int[] wrong = {-1, 3, 4, Integer.MAX_VALUE, Integer.MIN_VALUE};
        for (int number : wrong) {
            Check.refused("join(" + number + ", 0)", Halls::ofEachLaw, x -> x.join(number, 0), Check.INVALID);
            Check.refused("join(0, " + number + ")", Halls::ofEachLaw, x -> x.join(0, number), Check.INVALID);
            Check.refused("leave(" + number + ", 0)", Halls::ofEachLaw, x -> x.leave(number, 0), Check.INVALID);
            Check.refused("leave(0, " + number + ")", Halls::ofEachLaw, x -> x.leave(0, number), Check.INVALID);
            Check.refused("groupOf(" + number + ", 0)", Halls::ofEachLaw, x -> x.groupOf(number, 0), Check.INVALID);
            Check.refused("meets(" + number + ")", Halls::ofEachLaw, x -> x.meets(number), Check.INVALID);
        }
        int[] beyondFull = {-1, 4, 32, 33};
        for (int number : beyondFull) {
            Check.refused("join(" + number + ", 4)", Halls::full, x -> x.join(number, 4), Check.INVALID);
            Check.refused("leave(" + number + ", 0)", Halls::full, x -> x.leave(number, 0), Check.INVALID);
            Check.refused("meets(" + number + ")", Halls::full, x -> x.meets(number), Check.INVALID);
        }
        int[] beyondClocks = {-1, 6, 31, 32, 33};
        for (int number : beyondClocks) {
            Check.refused("join(0, " + number + ")", Halls::full, x -> x.join(0, number), Check.INVALID);
            Check.refused("leave(0, " + number + ")", Halls::full, x -> x.leave(0, number), Check.INVALID);
        }
        Check.due("meets(3), the last one", Halls.full().meets(3), Check.NOT_FOUND);
        Check.due("groupOf(3, 1), the last one", Halls.full().groupOf(3, 1), 16);
        Check.refused("meets(0) of a new object", Halls::empty, x -> x.meets(0), Check.INVALID);
        Check.refused("join(0, 0) of a new object", Halls::empty, x -> x.join(0, 0), Check.INVALID);
        Check.refused("leave(0, 0) of a new object", Halls::empty, x -> x.leave(0, 0), Check.INVALID);
        Check.refused("groupOf(0, 2) of a new object", Halls::empty, x -> x.groupOf(0, 2), Check.INVALID);
        Check.sentence("groupOf: what 0 to 5");
        int[] whats = {-1, 6, Integer.MAX_VALUE, Integer.MIN_VALUE};
        for (int what : whats) {
            Check.refused("groupOf(0, " + what + ")", Halls::full, x -> x.groupOf(0, what), Check.INVALID);
            Check.refused("groupOf(2, " + what + ") without clocks", Halls::full, x -> x.groupOf(2, what), Check.INVALID);
        }
    }
}
