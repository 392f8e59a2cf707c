/** Promises 1 to 5: a new object, clock, wind, tick, passenger. */
public final class ClocksTest {
    public static void main(String[] args) {
        newObject();
        clockNumbers();
        clockArguments();
        clockBeginsItsGap();
        inTurn();
        drawn();
        inBursts();
        windInTurn();
        windDrawn();
        windBreaksOff();
        tickCounts();
        tickLimits();
        lowestClockDrawsFirst();
        passengers();
        Check.end();
    }

    private static void newObject() {
        RenewalClocks x = new RenewalClocks();
        Check.dueText("a new object", Check.all(x), "0 0 0 1 0 0 0 0 " + Check.NOT_FOUND + " 0 \n  0");
        Check.due("count(9)", x.count(9), 0);
        Check.due("undo()", x.undo(), Check.NOT_POSSIBLE);
        x.clock(0, 5, 0, 0, 0);
        Check.due("another object has its own clocks", new RenewalClocks().count(0), 0);
        Check.due("INVALID_ARGUMENT", RenewalClocks.INVALID_ARGUMENT, Check.INVALID);
        Check.due("NOT_POSSIBLE", RenewalClocks.NOT_POSSIBLE, Check.NOT_POSSIBLE);
        Check.due("LIMIT_REACHED", RenewalClocks.LIMIT_REACHED, Check.LIMIT);
        Check.due("NOT_FOUND", RenewalClocks.NOT_FOUND, Check.NOT_FOUND);
    }

    private static void clockNumbers() {
        RenewalClocks x = new RenewalClocks();
        for (int i = 0; i < 6; i++) {
            Check.due("clock of law " + i % 3, x.clock(i % 3, 5, 5, i % 3 == 2 ? 1 : 0, 0), i);
        }
        Check.due("a 7th clock", x.clock(0, 5, 0, 0, 0), Check.LIMIT);
        Check.due("a wrong 7th clock", x.clock(0, 0, 0, 0, 0), Check.INVALID);
        Check.due("count(0)", x.count(0), 6);
    }

    private static void refuse(int law, int a, int b, int c, int d) {
        RenewalClocks x = new RenewalClocks();
        String call = "clock(" + law + ", " + a + ", " + b + ", " + c + ", " + d + ")";
        Check.due(call, x.clock(law, a, b, c, d), Check.INVALID);
        Check.due("count(0) after " + call, x.count(0), 0);
        Check.due("count(3) after " + call, x.count(3), 1);
        Check.due("count(9) after " + call, x.count(9), 0);
    }

    private static void take(int law, int a, int b, int c, int d) {
        RenewalClocks x = new RenewalClocks();
        String call = "clock(" + law + ", " + a + ", " + b + ", " + c + ", " + d + ")";
        Check.due(call, x.clock(law, a, b, c, d), 0);
        int[] told = {law, a, b, c, d};
        for (int what = 0; what < told.length; what++) {
            Check.due("clockOf(0, " + what + ") after " + call, x.clockOf(0, what), told[what]);
        }
    }

    private static void clockArguments() {
        refuse(-1, 1, 1, 1, 0);
        refuse(3, 1, 1, 1, 0);
        refuse(Integer.MIN_VALUE, 1, 1, 1, 0);
        for (int law = 0; law <= 1; law++) {
            refuse(law, 0, 0, 0, 0);
            refuse(law, -1, 0, 0, 0);
            refuse(law, 51, 0, 0, 0);
            refuse(law, 1, -1, 0, 0);
            refuse(law, 1, 51, 0, 0);
            refuse(law, 1, 1, -1, 0);
            refuse(law, 1, 1, 51, 0);
            refuse(law, 1, 1, 1, -1);
            refuse(law, 1, 1, 1, 51);
            refuse(law, 1, 0, 1, 0);
            refuse(law, 1, 0, 0, 1);
            refuse(law, 1, 1, 0, 1);
            refuse(law, 0, 1, 1, 1);
            refuse(law, Integer.MAX_VALUE, 0, 0, Integer.MIN_VALUE);
            take(law, 1, 0, 0, 0);
            take(law, 50, 1, 0, 0);
            take(law, 1, 50, 50, 0);
            take(law, 50, 50, 50, 50);
        }
        refuse(2, 0, 1, 1, 0);
        refuse(2, 51, 1, 1, 0);
        refuse(2, 1, 0, 1, 0);
        refuse(2, 1, 51, 1, 0);
        refuse(2, 1, 1, 0, 0);
        refuse(2, 1, 1, 51, 0);
        refuse(2, 1, 1, 1, 1);
        refuse(2, 1, 1, 1, -1);
        take(2, 1, 1, 1, 0);
        take(2, 50, 50, 50, 0);
    }

    private static void clockBeginsItsGap() {
        RenewalClocks x = new RenewalClocks();
        x.clock(0, 9, 4, 0, 0);
        x.tick(3);
        x.clock(0, 9, 4, 0, 0);
        Check.due("its gap", x.clockOf(1, 5), 9);
        Check.due("its age", x.clockOf(1, 6), 0);
        Check.due("its rest", x.clockOf(1, 7), 9);
        Check.due("the age of the earlier one", x.clockOf(0, 6), 3);
        Check.due("the rest of the earlier one", x.clockOf(0, 7), 6);
    }

    /** Lets one gap after the other go by, and looks at each. */
    private static void dueGaps(String law, RenewalClocks x, int... gaps) {
        int sum = 0;
        for (int i = 0; i < gaps.length; i++) {
            Check.due(law + ": gap " + i, x.clockOf(0, 5), gaps[i]);
            Check.due(law + ": told before gap " + i, x.clockOf(0, 8), i);
            Check.due(law + ": sum before gap " + i, x.clockOf(0, 9), sum);
            Check.due(law + ": the ticks of gap " + i, x.tick(gaps[i]), 1);
            sum += gaps[i];
        }
    }

    private static void inTurn() {
        RenewalClocks x = new RenewalClocks();
        x.clock(0, 3, 1, 4, 2);
        dueGaps("four in turn", x, 3, 1, 4, 2, 3, 1, 4, 2, 3);
        x = new RenewalClocks();
        x.clock(0, 3, 1, 0, 0);
        dueGaps("two in turn", x, 3, 1, 3, 1, 3);
        x = new RenewalClocks();
        x.clock(0, 7, 0, 0, 0);
        dueGaps("one in turn", x, 7, 7, 7);
    }

    private static void drawn() {
        RenewalClocks x = new RenewalClocks();
        x.clock(1, 11, 12, 13, 14);
        // x by hand: 2084, 9027, 2030, 6293, 1016, 9399; modulo 4: 0, 3, 2, 1, 0, 3
        dueGaps("drawn by 4", x, 11, 14, 13, 12, 11, 14);
        x = new RenewalClocks();
        x.clock(1, 11, 12, 13, 0);
        // modulo 3: 2, 0, 2, 2, 2
        dueGaps("drawn by 3", x, 13, 11, 13, 13, 13);
        x = new RenewalClocks();
        x.clock(1, 5, 0, 0, 0);
        Check.due("x, drawn by 1", x.count(3), 2084);
        x.tick(5);
        Check.due("x, drawn by 1 again", x.count(3), 9027);
    }

    private static void inBursts() {
        RenewalClocks x = new RenewalClocks();
        x.clock(2, 2, 3, 9, 0);
        dueGaps("bursts of 3", x, 2, 2, 2, 9, 2, 2, 2, 9, 2);
        x = new RenewalClocks();
        x.clock(2, 5, 1, 1, 0);
        dueGaps("bursts of 1", x, 5, 1, 5, 1, 5);
        Check.due("x without a draw", x.count(3), 1);
    }

    private static void windInTurn() {
        RenewalClocks x = new RenewalClocks();
        x.clock(0, 3, 5, 7, 0);
        Check.due("wind(0)", x.wind(0), 5);
        Check.due("wind(0)", x.wind(0), 7);
        Check.due("wind(0)", x.wind(0), 3);
        Check.due("clockOf(0, 13)", x.clockOf(0, 13), 3);
        x.clock(2, 4, 2, 9, 0);
        Check.due("wind(1)", x.wind(1), 4);
        Check.due("wind(1)", x.wind(1), 9);
        Check.due("wind(1)", x.wind(1), 4);
        Check.due("x", x.count(3), 1);
        Check.due("wind(2)", x.wind(2), Check.INVALID);
        Check.due("wind(-1)", x.wind(-1), Check.INVALID);
        Check.due("wind(MAX)", x.wind(Integer.MAX_VALUE), Check.INVALID);
        Check.due("wind(MIN)", x.wind(Integer.MIN_VALUE), Check.INVALID);
    }

    private static void windDrawn() {
        RenewalClocks x = new RenewalClocks();
        x.clock(1, 11, 12, 13, 14);
        Check.due("wind(0)", x.wind(0), 14);
        Check.due("x", x.count(3), 9027);
        Check.due("wind(0)", x.wind(0), 13);
        Check.due("clockOf(0, 13)", x.clockOf(0, 13), 2);
    }

    private static void windBreaksOff() {
        RenewalClocks x = new RenewalClocks();
        x.clock(0, 3, 5, 0, 0);
        x.tick(2);
        Check.due("wind(0)", x.wind(0), 5);
        Check.due("its age", x.clockOf(0, 6), 0);
        Check.due("its rest", x.clockOf(0, 7), 5);
        Check.due("gaps told", x.clockOf(0, 8), 0);
        Check.due("tick(4)", x.tick(4), 0);
        Check.due("tick(1)", x.tick(1), 1);
        Check.due("their sum", x.clockOf(0, 9), 5);
        Check.due("the tick", x.count(2), 7);
    }

    private static void tickCounts() {
        RenewalClocks x = new RenewalClocks();
        Check.due("tick(200) without clocks", x.tick(200), 0);
        Check.due("the tick", x.count(2), 200);
        x.clock(0, 1, 0, 0, 0);
        x.clock(0, 3, 0, 0, 0);
        Check.due("tick(1)", x.tick(1), 1);
        Check.due("tick(2)", x.tick(2), 3);
        Check.due("tick(200)", x.tick(200), 266);
        Check.due("the rest", x.clockOf(1, 7), 1);
        Check.due("the age", x.clockOf(1, 6), 2);
        Check.due("the longest", x.clockOf(1, 10), 3);
        Check.due("the tick", x.count(2), 403);
    }

    private static void tickLimits() {
        RenewalClocks x = new RenewalClocks();
        x.clock(0, 50, 0, 0, 0);
        int[] wrong = {0, -1, 201, Integer.MAX_VALUE, Integer.MIN_VALUE};
        for (int ticks : wrong) {
            Check.due("tick(" + ticks + ")", x.tick(ticks), Check.INVALID);
        }
        Check.due("the tick", x.count(2), 0);
        Check.typed(x, "t200;t200;t200;t200;t200;t200;t200;t200;t200;t200;t200;t200;");
        for (int i = 0; i < 41; i++) {
            x.play();
        }
        for (int i = 0; i < 7; i++) {
            Check.due("tick(200)", x.tick(200), 4);
        }
        Check.due("the tick", x.count(2), 99800);
        Check.due("tick to 100000", x.tick(200), Check.LIMIT);
        Check.due("a wrong tick at the limit", x.tick(201), Check.INVALID);
        Check.due("would at the limit", x.would(0, 200, 2), 4);
        Check.due("tick to 99999", x.tick(199), 3);
        Check.due("the tick", x.count(2), 99999);
        Check.due("tick to 100000", x.tick(1), Check.LIMIT);
        Check.due("the tick", x.count(2), 99999);
        Check.due("would beyond the limit", x.would(0, 1, 2), 1);
        Check.due("the sum of all gaps", x.clockOf(0, 9), 99950);
        Check.dueDouble("the met mean of many gaps", x.mean(0, 1), 50.0);
        Check.dueDouble("the wait of many gaps", x.mean(0, 2), 25.5);
        Check.dueFault(x, "p0;t1;", 3, 2, Check.LIMIT);
        x.undo();
        Check.due("tick(1) after undo()", x.tick(1), 0);
    }

    private static void lowestClockDrawsFirst() {
        RenewalClocks x = new RenewalClocks();
        x.clock(1, 2, 0, 0, 0);
        x.clock(1, 2, 0, 0, 0);
        x.clock(1, 2, 0, 0, 0);
        x.clock(0, 2, 0, 0, 0);
        Check.due("x after 3 draws", x.count(3), 2030);
        x = new RenewalClocks();
        x.clock(1, 1, 2, 3, 4);
        x.clock(1, 4, 3, 2, 1);
        // both begin a gap of 1 (places 0 and 3); then 2030 (place 2) is of the clock 0, 6293 (place 1) of the clock 1
        Check.due("tick(1)", x.tick(1), 2);
        Check.due("the gap of the clock 0", x.clockOf(0, 5), 3);
        Check.due("the gap of the clock 1", x.clockOf(1, 5), 3);
        Check.due("x", x.count(3), 6293);
        // at tick 4 both again: 1016 (place 0), 9399 (place 3)
        Check.due("tick(3)", x.tick(3), 2);
        Check.due("the gap of the clock 0", x.clockOf(0, 5), 1);
        Check.due("the gap of the clock 1", x.clockOf(1, 5), 1);
        x = new RenewalClocks();
        x.clock(1, 3, 1, 7, 9);
        x.clock(0, 3, 0, 0, 0);
        x.clock(1, 9, 7, 1, 3);
        // the clock 0 has place 0 (gap 3), the clock 2 place 3 (gap 3): then place 2 is of the clock 0, place 1 of the clock 2
        Check.due("tick(3)", x.tick(3), 3);
        Check.due("the gap of the clock 0", x.clockOf(0, 5), 7);
        Check.due("the gap of the clock 2", x.clockOf(2, 5), 7);
    }

    private static void passengers() {
        RenewalClocks x = new RenewalClocks();
        x.clock(0, 9, 4, 0, 0);
        Check.due("passenger(0)", x.passenger(0), 9);
        x.tick(5);
        Check.due("passenger(0)", x.passenger(0), 4);
        Check.due("wind(0)", x.wind(0), 4);
        Check.due("passengers", x.clockOf(0, 11), 2);
        Check.due("what they waited", x.clockOf(0, 12), 13);
        x.tick(3);
        Check.due("passenger(0) at a rest of 1", x.passenger(0), 1);
        x.tick(1);
        Check.due("passenger(0) at a new gap", x.passenger(0), 9);
        Check.due("passengers", x.clockOf(0, 11), 4);
        Check.due("what they waited", x.clockOf(0, 12), 23);
        Check.due("passenger(1)", x.passenger(1), Check.INVALID);
        Check.due("passenger(-1)", x.passenger(-1), Check.INVALID);
        Check.due("passenger(MAX)", x.passenger(Integer.MAX_VALUE), Check.INVALID);
        Check.due("the clock 1", x.clock(0, 2, 0, 0, 0), 1);
        Check.due("passengers of the clock 1", x.clockOf(1, 11), 0);
        Check.due("passenger(1)", x.passenger(1), 2);
        Check.due("passengers of the clock 0", x.clockOf(0, 11), 4);
    }
}
