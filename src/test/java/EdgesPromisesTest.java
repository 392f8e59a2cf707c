/** The edges that the promises 1 to 5, 9, 10, 12, 13, 15 and 16 name; the other Edges tests have the other promises. */
public final class EdgesPromisesTest {
    private static final int MAX = Integer.MAX_VALUE;
    private static final int MIN = Integer.MIN_VALUE;

    public static void main(String[] args) {
        newObject();
        lawsOfClocks();
        windReturns();
        ticksOfATick();
        toldInTicks();
        lastTick();
        undoneLastTick();
        passengerReturns();
        clockOfWhat();
        clockOfNothingYet();
        clockOfTheLongest();
        meanWhat();
        nextPlaces();
        nextOfEqualRests();
        wouldArguments();
        wouldAtTheEndOfAGap();
        wouldOfDrawnClocks();
        wouldBeyondTheLastTick();
        longerOfNone();
        longerOfAll();
        countWhat();
        countNothingYet();
        countEverythingFull();
        greatestAge();
        restsOfOne();
        lastCall();
        mostPassengers();
        Check.end();
    }

    private static void newObject() {
        Check.sentence("Promise 1: Creates a hall without clocks at the tick 0");
        int[] counts = {0, 0, 0, 1, 0, 0, 0, 0, Check.NOT_FOUND, 0, 0};
        for (int what = 0; what < counts.length; what++) {
            Check.due("count(" + what + ")", new RenewalClocks().count(what), counts[what]);
        }
        RenewalClocks x = Halls.full();
        RenewalClocks y = new RenewalClocks();
        Check.dueText("a new object beside a full one", Check.everything(y), Check.everything(new RenewalClocks()));
        Check.due("the full one beside a new object", x.count(0), 6);
    }

    private static void lawsOfClocks() {
        Check.sentence("Promise 2: law 0 to 2");
        int[] wrong = {-1, 3, MAX, MIN};
        for (int law : wrong) {
            Check.refused("clock of the law " + law, Halls::ofEachLaw, x -> x.clock(law, 5, 5, 5, 0), Check.INVALID);
            Check.refused("a 7th clock of the law " + law, Halls::full, x -> x.clock(law, 5, 5, 5, 0), Check.INVALID);
        }
        for (int law = 0; law <= 2; law++) {
            RenewalClocks x = new RenewalClocks();
            Check.due("clock of the law " + law, x.clock(law, 5, 5, 5, 0), 0);
            Check.due("clockOf(0, 0)", x.clockOf(0, 0), law);
        }
    }

    private static void windReturns() {
        Check.sentence("Promise 3: Returns the gap that it begins");
        RenewalClocks x = new RenewalClocks();
        x.clock(0, 1, 50, 0, 0);
        Check.due("wind(0), the longest gap", x.wind(0), 50);
        Check.due("wind(0), the shortest gap", x.wind(0), 1);
        for (int i = 0; i < 40; i++) {
            int gap = x.wind(0);
            Check.due("clockOf(0, 5) is what wind(0) returned", x.clockOf(0, 5), gap);
            Check.due("clockOf(0, 7) is what wind(0) returned", x.clockOf(0, 7), gap);
            Check.due("clockOf(0, 6)", x.clockOf(0, 6), 0);
        }
        Check.due("clockOf(0, 13)", x.clockOf(0, 13), 42);
        Check.due("the other clocks are not wound", Halls.full().clockOf(3, 13), 0);
    }

    private static void ticksOfATick() {
        Check.sentence("Promise 4: ticks 1 to 200");
        int[] wrong = {0, -1, 201, MAX, MIN};
        for (int ticks : wrong) {
            Check.refused("tick(" + ticks + ")", Halls::ofEachLaw, x -> x.tick(ticks), Check.INVALID);
            Check.refused("tick(" + ticks + ") of a new object", Halls::empty, x -> x.tick(ticks), Check.INVALID);
        }
        RenewalClocks x = Halls.ofGaps(1);
        Check.due("tick(1)", x.tick(1), 1);
        Check.due("count(2)", x.count(2), 1);
        Check.due("tick(200)", x.tick(200), 200);
        Check.due("count(2)", x.count(2), 201);
        Check.due("tick(199)", x.tick(199), 199);
        Check.due("tick(1) without clocks", new RenewalClocks().tick(1), 0);
        Check.due("tick(200) without clocks", new RenewalClocks().tick(200), 0);
    }

    private static void toldInTicks() {
        Check.sentence("Promise 4: Returns how many gaps are told in them");
        RenewalClocks x = Halls.ofGaps(1, 1, 1, 1, 1, 1);
        Check.due("tick(200) of six clocks of 1", x.tick(200), 1200);
        Check.due("count(4)", x.count(4), 1200);
        x = Halls.ofGaps(50);
        Check.due("tick(49)", x.tick(49), 0);
        Check.due("tick(50)", x.tick(50), 1);
        Check.due("tick(1)", x.tick(1), 1);
        Check.due("tick(200)", x.tick(200), 4);
        Check.due("count(4)", x.count(4), 6);
    }

    private static void lastTick() {
        Check.sentence("Promise 4: LIMIT_REACHED if the tick would be above 99999");
        for (int left = 0; left <= 199; left += left < 2 ? 1 : 197) {
            int ahead = left;
            RenewalClocks x = Halls.beforeLastTick(ahead, 50);
            Check.due("the tick", x.count(2), 99999 - ahead);
            if (ahead < 199) {
                Check.due("tick(200) from " + (99999 - ahead), x.tick(200), Check.LIMIT);
            }
            Check.due("tick(" + (ahead + 1) + ") from " + (99999 - ahead), x.tick(ahead + 1), Check.LIMIT);
            Check.due("the tick", x.count(2), 99999 - ahead);
            if (ahead > 0) {
                Check.dueTrue("tick(" + ahead + ") to the last tick", x.tick(ahead) >= 0);
            }
            Check.due("the tick", x.count(2), 99999);
            Check.due("tick(1) at the last tick", x.tick(1), Check.LIMIT);
        }
        RenewalClocks x = Halls.beforeLastTick(199, 1);
        x.undo();
        Check.due("the tick", x.count(2), 99600);
        Check.due("tick(199)", x.tick(199), 199);
        Check.due("tick(200) to the last tick", x.tick(200), 200);
        Check.due("the tick", x.count(2), 99999);
        Check.due("gaps told", x.clockOf(0, 8), 99999);
        Check.refused("tick(1) beyond the last tick", () -> Halls.beforeLastTick(0, 7, 50), h -> h.tick(1), Check.LIMIT);
        Check.refused("tick(200) beyond the last tick", () -> Halls.beforeLastTick(199, 7, 50), h -> h.tick(200), Check.LIMIT);
    }

    private static void undoneLastTick() {
        Check.sentence("Promise 4: LIMIT_REACHED, when the last tick is undone; the other changes have no last tick");
        RenewalClocks x = Halls.beforeLastTick(0, 7);
        Check.due("wind(0)", x.wind(0), 7);
        Check.due("passenger(0)", x.passenger(0), 7);
        Check.due("clock", x.clock(0, 1, 0, 0, 0), 1);
        Check.due("group(0)", x.group(0), 0);
        x = Halls.beforeLastTick(0, 7);
        x.undo();
        Check.due("the tick", x.count(2), 99800);
        Check.due("tick(200)", x.tick(200), Check.LIMIT);
        // 99999 is 14285 gaps of 7 and 4 ticks, 99800 is 14257 of them and 1 tick
        Check.due("tick(199)", x.tick(199), 28);
    }

    private static void passengerReturns() {
        Check.sentence("Promise 5: Returns how many ticks the passenger waits");
        RenewalClocks x = Halls.ofGaps(50, 1, 2);
        int waited = 0;
        for (int ticks = 0; ticks <= 50; ticks++) {
            int rest = 50 - ticks % 50;
            Check.due("passenger(0) at " + ticks, x.passenger(0), rest);
            Check.due("passenger(1) at " + ticks, x.passenger(1), 1);
            waited += rest + 1;
            x.tick(1);
        }
        Check.due("count(5)", x.count(5), 102);
        Check.due("count(6)", x.count(6), waited);
        Check.due("clockOf(2, 11), where none came", x.clockOf(2, 11), 0);
    }

    private static void clockOfWhat() {
        Check.sentence("Promise 9: what 0 to 13");
        int[] wrong = {-1, 14, MAX, MIN};
        for (int what : wrong) {
            Check.refused("clockOf(5, " + what + ")", Halls::full, x -> x.clockOf(5, what), Check.INVALID);
        }
        RenewalClocks x = new RenewalClocks();
        x.clock(0, 11, 12, 13, 14);
        x.tick(15);
        x.passenger(0);
        x.passenger(0);
        x.tick(1);
        x.passenger(0);
        int[] due = {0, 11, 12, 13, 14, 12, 5, 7, 1, 11, 11, 3, 23, 0};
        for (int what = 0; what < due.length; what++) {
            Check.due("clockOf(0, " + what + ")", x.clockOf(0, what), due[what]);
        }
        x.wind(0);
        Check.due("clockOf(0, 13)", x.clockOf(0, 13), 1);
        Check.due("clockOf(0, 5)", x.clockOf(0, 5), 13);
    }

    private static void clockOfNothingYet() {
        Check.sentence("Promise 9: of a clock of which nothing is told yet");
        int[][] due = {
            {0, 3, 5, 0, 0, 3, 0, 3, 0, 0, Check.NOT_FOUND, 0, 0, 0},
            {1, 9, 4, 7, 0, 7, 0, 7, 0, 0, Check.NOT_FOUND, 0, 0, 0},
            {2, 2, 3, 10, 0, 2, 0, 2, 0, 0, Check.NOT_FOUND, 0, 0, 0},
        };
        for (int clock = 0; clock < 3; clock++) {
            RenewalClocks x = Halls.ofEachLaw();
            for (int what = 0; what <= 13; what++) {
                Check.due("clockOf(" + clock + ", " + what + ")", x.clockOf(clock, what), due[clock][what]);
            }
        }
    }

    private static void clockOfTheLongest() {
        Check.sentence("Promise 9: NOT_FOUND for 10 if it told none");
        RenewalClocks x = new RenewalClocks();
        x.clock(0, 5, 50, 1, 0);
        x.tick(4);
        Check.due("the longest, one tick before the first is told", x.clockOf(0, 10), Check.NOT_FOUND);
        x.tick(1);
        Check.due("the longest of one", x.clockOf(0, 10), 5);
        x.undo();
        Check.due("the longest, undone", x.clockOf(0, 10), Check.NOT_FOUND);
        x.tick(1);
        x.wind(0);
        Check.due("the longest, where a longer one is broken off", x.clockOf(0, 10), 5);
        x.tick(1);
        Check.due("the longest, behind a shorter one", x.clockOf(0, 10), 5);
        x.tick(55);
        Check.due("the longest, behind a longer one", x.clockOf(0, 10), 50);
        x = Halls.ofGaps(1);
        x.tick(1);
        Check.due("the longest, of 1", x.clockOf(0, 10), 1);
    }

    private static void meanWhat() {
        Check.sentence("Promise 10: what 0 to 5; NOT_FOUND for 0 to 2 if it told no gap");
        int[] wrong = {-1, 6, MAX, MIN};
        for (int what : wrong) {
            Check.refused("mean(0, " + what + ")", Halls::full, x -> x.mean(0, what), Check.INVALID);
            Check.refused("mean(0, " + what + "), nothing told", Halls::ofEachLaw, x -> x.mean(0, what), Check.INVALID);
        }
        RenewalClocks x = Halls.ofGaps(5);
        x.tick(4);
        for (int what = 0; what <= 2; what++) {
            Check.due("mean(0, " + what + "), nothing told", x.mean(0, what), Check.NOT_FOUND);
        }
        for (int what = 3; what <= 5; what++) {
            Check.dueDouble("mean(0, " + what + ")", x.mean(0, what), what == 5 ? 3.0 : 5.0);
        }
        x.tick(1);
        for (int what = 0; what <= 5; what++) {
            Check.dueDouble("mean(0, " + what + "), one told", x.mean(0, what), what % 3 == 2 ? 3.0 : 5.0);
        }
    }

    private static void nextPlaces() {
        Check.sentence("Promise 12: INVALID_ARGUMENT if place is below 0; NOT_FOUND if there are not so many");
        int[] below = {-1, -2, MIN};
        for (int place : below) {
            Check.refused("next(" + place + ")", Halls::full, x -> x.next(place), Check.INVALID);
            Check.refused("next(" + place + ") without clocks", Halls::empty, x -> x.next(place), Check.INVALID);
        }
        int[] above = {6, 7, MAX};
        for (int place : above) {
            Check.refused("next(" + place + ") of 6", Halls::full, x -> x.next(place), Check.NOT_FOUND);
        }
        Check.refused("next(0) without clocks", Halls::empty, x -> x.next(0), Check.NOT_FOUND);
        RenewalClocks x = new RenewalClocks();
        for (int clocks = 1; clocks <= 6; clocks++) {
            x.clock(0, 50 - clocks, 0, 0, 0);
            for (int place = 0; place < clocks; place++) {
                Check.due("next(" + place + ") of " + clocks, x.next(place), clocks - 1 - place);
            }
            Check.due("next(" + clocks + ") of " + clocks, x.next(clocks), Check.NOT_FOUND);
        }
    }

    private static void nextOfEqualRests() {
        Check.sentence("Promise 12: of several the lowest one; by their rests");
        RenewalClocks x = Halls.ofGaps(5, 5, 5, 5, 5, 5);
        for (int place = 0; place < 6; place++) {
            Check.due("next(" + place + ") of equal ones", x.next(place), place);
        }
        x = Halls.ofGaps(50, 1, 50, 1);
        int[] due = {1, 3, 0, 2};
        for (int place = 0; place < 4; place++) {
            Check.due("next(" + place + ") of the shortest and the longest", x.next(place), due[place]);
        }
        x.tick(49);
        for (int place = 0; place < 4; place++) {
            Check.due("next(" + place + ") of rests of 1", x.next(place), place);
        }
        x.wind(0);
        int[] wound = {1, 2, 3, 0};
        for (int place = 0; place < 4; place++) {
            Check.due("next(" + place + ") when one is wound", x.next(place), wound[place]);
        }
    }

    private static void wouldArguments() {
        Check.sentence("Promise 13: ticks 1 to 200, what 0 to 3");
        int[] wrongTicks = {0, -1, 201, MAX, MIN};
        for (int ticks : wrongTicks) {
            for (int what = 0; what <= 3; what++) {
                int asked = what;
                Check.refused("would(0, " + ticks + ", " + what + ")", Halls::ofEachLaw, x -> x.would(0, ticks, asked), Check.INVALID);
            }
        }
        int[] wrongWhats = {-1, 4, MAX, MIN};
        for (int what : wrongWhats) {
            Check.refused("would(0, 1, " + what + ")", Halls::ofEachLaw, x -> x.would(0, 1, what), Check.INVALID);
            Check.refused("would(0, 200, " + what + ")", Halls::full, x -> x.would(0, 200, what), Check.INVALID);
        }
        Check.refused("would(0, 1, 0) without clocks", Halls::empty, x -> x.would(0, 1, 0), Check.INVALID);
        RenewalClocks x = Halls.ofGaps(1);
        int[] ofOne = {0, 1, 1, 1};
        int[] of200 = {0, 1, 200, 1};
        for (int what = 0; what <= 3; what++) {
            Check.due("would(0, 1, " + what + ")", x.would(0, 1, what), ofOne[what]);
            Check.due("would(0, 200, " + what + ")", x.would(0, 200, what), of200[what]);
        }
    }

    private static void dueWould(RenewalClocks x, int ticks, int... due) {
        for (int what = 0; what < due.length; what++) {
            Check.due("would(0, " + ticks + ", " + what + ")", x.would(0, ticks, what), due[what]);
        }
    }

    private static void wouldAtTheEndOfAGap() {
        Check.sentence("Promise 13: 0: its age then; 1: its rest then; 2: gaps that it would tell; 3: its gap then");
        RenewalClocks x = new RenewalClocks();
        x.clock(0, 3, 50, 0, 0);
        dueWould(x, 1, 1, 2, 0, 3);
        dueWould(x, 2, 2, 1, 0, 3);
        dueWould(x, 3, 0, 50, 1, 50);
        dueWould(x, 4, 1, 49, 1, 50);
        dueWould(x, 52, 49, 1, 1, 50);
        dueWould(x, 53, 0, 3, 2, 3);
        // 3 rounds of 53 ticks and a gap of 3 end at the tick 162
        dueWould(x, 199, 37, 13, 7, 50);
        dueWould(x, 200, 38, 12, 7, 50);
        x.tick(3);
        dueWould(x, 1, 1, 49, 0, 50);
        dueWould(x, 50, 0, 3, 1, 3);
        x.wind(0);
        dueWould(x, 3, 0, 50, 1, 50);
        Check.due("the tick is as it was", x.count(2), 3);
        Check.due("gaps told are as they were", x.clockOf(0, 8), 1);
    }

    private static void wouldOfDrawnClocks() {
        Check.sentence("Promise 13: what would be if ticks ended now, where all clocks draw by one x");
        RenewalClocks x = new RenewalClocks();
        x.clock(1, 1, 0, 0, 0);
        x.clock(1, 2, 5, 9, 0);
        x.clock(1, 3, 4, 0, 0);
        String before = Check.all(x);
        int[] due = new int[12];
        for (int i = 0; i < 12; i++) {
            due[i] = x.would(i / 4, 200, i % 4);
        }
        Check.dueText("would changes nothing", Check.all(x), before);
        int[] told = {x.clockOf(0, 8), x.clockOf(1, 8), x.clockOf(2, 8)};
        x.tick(200);
        for (int clock = 0; clock < 3; clock++) {
            Check.due("its age then", due[4 * clock], x.clockOf(clock, 6));
            Check.due("its rest then", due[4 * clock + 1], x.clockOf(clock, 7));
            Check.due("gaps that it would tell", due[4 * clock + 2], x.clockOf(clock, 8) - told[clock]);
            Check.due("its gap then", due[4 * clock + 3], x.clockOf(clock, 5));
        }
    }

    private static void wouldBeyondTheLastTick() {
        Check.sentence("Promise 13 names no LIMIT_REACHED: ticks 1 to 200 at any tick");
        RenewalClocks x = Halls.beforeLastTick(0, 50);
        // the gap of 50 has one tick left
        Check.due("would(0, 1, 2)", x.would(0, 1, 2), 1);
        Check.due("would(0, 200, 2)", x.would(0, 200, 2), 4);
        Check.due("would(0, 200, 0)", x.would(0, 200, 0), 49);
        Check.due("the tick", x.count(2), 99999);
    }

    private static void longerOfNone() {
        Check.sentence("Promise 15: of all clocks, made from 0.0 on");
        Check.dueDouble("longer() of a new object", new RenewalClocks().longer(), 0.0);
        Check.dueDouble("longer() without passengers", Halls.ofEachLaw().longer(), 0.0);
        RenewalClocks x = Halls.ofGaps(1);
        x.passenger(0);
        Check.dueDouble("longer() as by the law", x.longer(), 0.0);
        x = Halls.ofGaps(5, 5);
        x.passenger(0);
        x.tick(4);
        x.passenger(1);
        Check.dueDouble("longer() of two clocks, one above and one below the law", x.longer(), 0.0);
        x.undo();
        Check.dueDouble("longer(), undone", x.longer(), 2.0);
    }

    private static void longerOfAll() {
        Check.sentence("Promise 15: one clock after the other: of its passengers, as a double, times the wait by the law alone");
        RenewalClocks x = new RenewalClocks();
        x.clock(0, 1, 2, 0, 0);
        x.clock(0, 3, 4, 0, 0);
        x.clock(2, 7, 3, 2, 0);
        x.clock(0, 1, 1, 1, 7);
        x.clock(0, 50, 0, 0, 0);
        x.clock(0, 9, 1, 0, 0);
        double[] waits = {4.0 / 3.0, 16.0 / 7.0, 87.0 / 23.0, 31.0 / 10.0, 25.5, 46.0 / 10.0};
        int[] rests = {1, 3, 7, 1, 50, 9};
        int waited = 0;
        for (int times = 1; times <= 7; times++) {
            double due = 0.0;
            for (int clock = 0; clock < 6; clock++) {
                Check.due("passenger(" + clock + ")", x.passenger(clock), rests[clock]);
                waited += rests[clock];
                due += (double) times * waits[clock];
            }
            Check.dueDouble("longer() of " + times + " each", x.longer(), (double) waited - due);
        }
    }

    private static void countWhat() {
        Check.sentence("Promise 16: INVALID_ARGUMENT if what is out of range");
        int[] wrong = {-1, 11, MAX, MIN};
        for (int what : wrong) {
            Check.refused("count(" + what + ") of a new object", Halls::empty, x -> x.count(what), Check.INVALID);
            Check.refused("count(" + what + ")", Halls::full, x -> x.count(what), Check.INVALID);
        }
    }

    private static void dueCounts(RenewalClocks x, int... counts) {
        for (int what = 0; what < counts.length; what++) {
            Check.due("count(" + what + ")", x.count(what), counts[what]);
        }
    }

    private static void countNothingYet() {
        Check.sentence("Promise 16: where nothing is there yet");
        dueCounts(new RenewalClocks(), 0, 0, 0, 1, 0, 0, 0, 0, Check.NOT_FOUND, 0, 0);
        dueCounts(Halls.ofGaps(1), 1, 0, 0, 1, 0, 0, 0, 1, 0, 1, 0);
        RenewalClocks x = new RenewalClocks();
        x.tick(200);
        dueCounts(x, 0, 0, 200, 1, 0, 0, 0, 0, Check.NOT_FOUND, 1, 0);
        x.undo();
        dueCounts(x, 0, 0, 0, 1, 0, 0, 0, 0, Check.NOT_FOUND, 0, 0);
    }

    private static void countEverythingFull() {
        Check.sentence("Promise 16: where everything is full");
        // in 14 ticks: gaps of 4, of 6, of 4, of 6; of the clock 4 7 and 3, and it is wound; of the clock 5, drawn by
        // 2084, 9027 and 2030, 9 and 2
        dueCounts(Halls.full(), 6, 4, 14, 2030, 3 + 2 + 3 + 2 + 2 + 2, 1, 7, 0, 3, 4, 60);
    }

    private static void greatestAge() {
        Check.sentence("Promise 16: 8: the greatest age of a clock; NOT_FOUND for 8 without clocks");
        Check.due("count(8) without clocks", new RenewalClocks().count(8), Check.NOT_FOUND);
        RenewalClocks x = Halls.ofGaps(50, 1);
        Check.due("count(8) of clocks that just came", x.count(8), 0);
        x.tick(49);
        Check.due("count(8) at the last tick of the longest gap", x.count(8), 49);
        x.tick(1);
        Check.due("count(8) when all begin anew", x.count(8), 0);
        x.undo();
        x.undo();
        x.undo();
        x.undo();
        Check.due("count(8) without clocks again", x.count(8), Check.NOT_FOUND);
        x = Halls.ofGaps(9);
        x.tick(3);
        x.clock(0, 9, 0, 0, 0);
        x.tick(2);
        Check.due("count(8) of the lower clock", x.count(8), 5);
        x.wind(0);
        Check.due("count(8) of the higher clock", x.count(8), 2);
    }

    private static void restsOfOne() {
        Check.sentence("Promise 16: 7: clocks whose rest is 1, as a set");
        RenewalClocks x = Halls.ofGaps(2, 1, 3, 50, 2, 1);
        int[] due = {2 + 32, 1 + 2 + 16 + 32, 2 + 4 + 32, 1 + 2 + 16 + 32};
        for (int ticks = 0; ticks < due.length; ticks++) {
            Check.due("count(7) at " + ticks, x.count(7), due[ticks]);
            x.tick(1);
        }
        x = Halls.ofGaps(5);
        Check.due("count(7) of none", x.count(7), 0);
    }

    private static void lastCall() {
        Check.sentence("An object is used for at most 512 calls after it has been made");
        RenewalClocks x = new RenewalClocks();
        x.clock(0, 1, 0, 0, 0);
        for (int call = 2; call <= 510; call++) {
            Check.due("the call " + call, x.tick(1), 1);
        }
        Check.due("the 511th call", x.clockOf(0, 8), 509);
        Check.due("the 512th call", x.undo(), 3);
        x = new RenewalClocks();
        for (int call = 1; call <= 511; call++) {
            x.undo();
        }
        Check.due("the 512th call", x.clock(0, 1, 0, 0, 0), 0);
    }

    private static void mostPassengers() {
        Check.sentence("what they waited together, of as many as 512 calls can bring");
        RenewalClocks x = Check.typed(Halls.ofGaps(50), Halls.FULL_TEXT);
        for (int plays = 0; plays < 446; plays++) {
            Check.due("play()", x.play(), 20);
        }
        Check.due("count(5)", x.count(5), 8920);
        Check.due("count(6)", x.count(6), 446000);
        Check.dueDouble("longer()", x.longer(), 446000.0 - 8920.0 * 25.5);
    }
}
