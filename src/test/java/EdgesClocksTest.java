/** The edges that "Terms" names for ticks, sets, doubles, clocks, passengers and means, sentence by sentence. */
public final class EdgesClocksTest {
    public static void main(String[] args) {
        ticksFromZero();
        setsAsBits();
        doublesAsBits();
        sixClocks();
        numbersInTurnOrDrawn();
        numbersInBursts();
        roundInTurn();
        roundInBursts();
        placesDrawn();
        firstDraw();
        drawnAtTheEndsOfX();
        roundOfX();
        firstGapBeginsNow();
        shortestAndLongestGap();
        lowestClockFirst();
        ageAndRest();
        windAtTheEndOfARound();
        windTellsNothing();
        passengersWait();
        passengersOfAWoundClock();
        meansOfTheFirstGap();
        meansOfTheShortestAndLongest();
        meansByLaw();
        meansByLawStay();
        Check.end();
    }

    private static void ticksFromZero() {
        Check.sentence("Ticks are counted from 0");
        RenewalClocks x = new RenewalClocks();
        Check.due("count(2) of a new object", x.count(2), 0);
        x.tick(1);
        Check.due("count(2) after one tick", x.count(2), 1);
    }

    private static void setsAsBits() {
        Check.sentence("Sets of clocks are told as bits: bit k is for the clock k");
        RenewalClocks x = new RenewalClocks();
        Check.due("count(7), no clock", x.count(7), 0);
        x = Halls.ofGaps(1, 9, 9, 9, 9, 9);
        Check.due("count(7), the lowest clock", x.count(7), 1);
        x = Halls.ofGaps(9, 9, 9, 9, 9, 1);
        Check.due("count(7), the highest clock", x.count(7), 32);
        x = Halls.ofGaps(1, 1, 1, 1, 1, 1);
        Check.due("count(7), all clocks", x.count(7), 63);
        x.group(0);
        Check.due("groupOf(0, 1), no clock", x.groupOf(0, 1), 0);
        x.join(0, 5);
        Check.due("groupOf(0, 1), the highest clock", x.groupOf(0, 1), 32);
        x.join(0, 0);
        Check.due("groupOf(0, 1), the lowest and the highest one", x.groupOf(0, 1), 33);
        x.leave(0, 5);
        Check.due("groupOf(0, 1), the lowest clock", x.groupOf(0, 1), 1);
    }

    private static void doublesAsBits() {
        Check.sentence("Doubles are told by their bits");
        RenewalClocks x = Halls.ofGaps(1, 50, 2, 4);
        Check.due("mean(0, 3) = 1.0", x.mean(0, 3), 0x3FF0000000000000L);
        Check.due("mean(1, 3) = 50.0", x.mean(1, 3), 0x4049000000000000L);
        Check.due("mean(2, 3) = 2.0", x.mean(2, 3), 0x4000000000000000L);
        Check.due("mean(3, 3) = 4.0", x.mean(3, 3), 0x4010000000000000L);
        Check.due("longer() = 0.0", x.longer(), 0L);
        x.passenger(0);
        Check.due("longer() = 1.0 - 1.0", x.longer(), 0L);
        x.passenger(2);
        Check.due("longer() = 0.5", x.longer(), 0x3FE0000000000000L);
        x.tick(1);
        x.passenger(2);
        Check.due("longer() = 0.0 again", x.longer(), 0L);
        x.passenger(2);
        Check.due("longer() = -0.5", x.longer(), 0xBFE0000000000000L);
        // nearest to 2.0 and to 1.0: nearly all bits of the fraction are set, or nearly none
        x = new RenewalClocks();
        x.clock(2, 2, 50, 1, 0);
        x.clock(2, 1, 50, 2, 0);
        Check.dueDouble("mean(0, 3)", x.mean(0, 3), 101.0 / 51.0);
        Check.dueDouble("mean(1, 3)", x.mean(1, 3), 52.0 / 51.0);
    }

    private static void sixClocks() {
        Check.sentence("at most 6 clocks, numbered from 0 in the order in which they came");
        RenewalClocks x = new RenewalClocks();
        for (int clock = 0; clock < 6; clock++) {
            Check.due("the clock " + clock, x.clock(0, 10 + clock, 0, 0, 0), clock);
        }
        Check.due("a 7th clock", x.clock(0, 16, 0, 0, 0), Check.LIMIT);
        for (int clock = 0; clock < 6; clock++) {
            Check.due("the number a of the clock " + clock, x.clockOf(clock, 1), 10 + clock);
        }
        x.undo();
        Check.due("a 6th clock again", x.clock(0, 20, 0, 0, 0), 5);
        Check.due("its number a", x.clockOf(5, 1), 20);
        Check.due("a 7th clock again", x.clock(0, 16, 0, 0, 0), Check.LIMIT);
        for (int law = 0; law <= 2; law++) {
            int c = law == 2 ? 1 : 0;
            int newLaw = law;
            Check.refused("a 7th clock of the law " + law, Halls::full, h -> h.clock(newLaw, 1, 1, c, 0), Check.LIMIT);
        }
    }

    private static void taken(int... n) {
        RenewalClocks x = new RenewalClocks();
        Check.due("clock" + java.util.Arrays.toString(n), x.clock(n[0], n[1], n[2], n[3], n[4]), 0);
        for (int what = 0; what <= 4; what++) {
            Check.due("clockOf(0, " + what + ") of clock" + java.util.Arrays.toString(n), x.clockOf(0, what), n[what]);
        }
    }

    private static void refused(int... n) {
        Check.refused("clock" + java.util.Arrays.toString(n), Halls::ofEachLaw,
            x -> x.clock(n[0], n[1], n[2], n[3], n[4]), Check.INVALID);
    }

    /** The numbers, with the one at a place put in the stead of what is there. */
    private static int[] with(int place, int number, int... numbers) {
        int[] changed = numbers.clone();
        changed[place] = number;
        return changed;
    }

    private static void numbersInTurnOrDrawn() {
        Check.sentence("a is 1 to 50, the others 0 to 50, nothing but 0 may stand behind a 0");
        for (int law = 0; law <= 1; law++) {
            for (int place = 1; place <= 4; place++) {
                taken(with(place, 1, law, 7, 7, 7, 7));
                taken(with(place, 50, law, 7, 7, 7, 7));
                refused(with(place, 51, law, 7, 7, 7, 7));
                refused(with(place, -1, law, 7, 7, 7, 7));
                refused(with(place, Integer.MAX_VALUE, law, 7, 7, 7, 7));
                refused(with(place, Integer.MIN_VALUE, law, 7, 7, 7, 7));
            }
            refused(law, 0, 0, 0, 0);
            taken(law, 7, 0, 0, 0);
            taken(law, 7, 7, 0, 0);
            taken(law, 7, 7, 7, 0);
            refused(law, 0, 7, 7, 7);
            refused(law, 7, 0, 7, 7);
            refused(law, 7, 0, 7, 0);
            refused(law, 7, 0, 0, 7);
            refused(law, 7, 7, 0, 7);
            refused(law, 7, 0, -1, 0);
            refused(law, 7, 0, 0, 51);
        }
    }

    private static void numbersInBursts() {
        Check.sentence("in bursts: a, b and c are 1 to 50, d is 0");
        taken(2, 1, 1, 1, 0);
        taken(2, 50, 50, 50, 0);
        for (int place = 1; place <= 3; place++) {
            taken(with(place, 1, 2, 7, 7, 7, 0));
            taken(with(place, 50, 2, 7, 7, 7, 0));
            refused(with(place, 0, 2, 7, 7, 7, 0));
            refused(with(place, -1, 2, 7, 7, 7, 0));
            refused(with(place, 51, 2, 7, 7, 7, 0));
        }
        refused(2, 7, 7, 7, 1);
        refused(2, 7, 7, 7, -1);
        refused(2, 7, 0, 0, 0);
        refused(2, 7, 7, 0, 0);
    }

    private static void dueRound(RenewalClocks x, int rounds, int... gaps) {
        for (int i = 0; i < rounds * gaps.length; i++) {
            int gap = gaps[i % gaps.length];
            Check.due("the gap " + i, x.clockOf(0, 5), gap);
            Check.due("its last tick but one", gap == 1 ? 0 : x.tick(gap - 1), 0);
            Check.due("its last tick", x.tick(1), 1);
        }
        Check.due("the first gap again", x.clockOf(0, 5), gaps[0]);
    }

    private static RenewalClocks one(int law, int a, int b, int c, int d) {
        RenewalClocks x = new RenewalClocks();
        x.clock(law, a, b, c, d);
        return x;
    }

    private static void roundInTurn() {
        Check.sentence("in turn: gaps a, b, c, d, then a again, and so on; 0 is no gap");
        dueRound(one(0, 7, 0, 0, 0), 3, 7);
        dueRound(one(0, 7, 2, 0, 0), 3, 7, 2);
        dueRound(one(0, 7, 2, 50, 0), 3, 7, 2, 50);
        dueRound(one(0, 7, 2, 50, 1), 3, 7, 2, 50, 1);
        dueRound(one(0, 5, 5, 5, 6), 2, 5, 5, 5, 6);
    }

    private static void roundInBursts() {
        Check.sentence("in bursts: b gaps of the length a, then one of the length c, and so on");
        dueRound(one(2, 3, 1, 9, 0), 4, 3, 9);
        dueRound(one(2, 3, 2, 9, 0), 3, 3, 3, 9);
        dueRound(one(2, 50, 1, 1, 0), 3, 50, 1);
        RenewalClocks x = one(2, 2, 50, 49, 0);
        for (int round = 0; round < 3; round++) {
            Check.due("99 ticks of the 50 gaps", x.tick(99), 49);
            Check.due("the 50th gap", x.clockOf(0, 5), 2);
            Check.due("its last tick", x.tick(1), 1);
            Check.due("the gap c", x.clockOf(0, 5), 49);
            Check.due("48 ticks of it", x.tick(48), 0);
            Check.due("its last tick", x.tick(1), 1);
            Check.due("a gap a again", x.clockOf(0, 5), 2);
        }
    }

    private static int drawnAfter(int draws) {
        int x = 1;
        for (int i = 0; i < draws; i++) {
            x = (x * 421 + 1663) % 10000;
        }
        return x;
    }

    private static void placesDrawn() {
        Check.sentence("each gap is the one at the place that is drawn by how many there are (also if there is one alone)");
        int[] gaps = {11, 12, 13, 14};
        for (int many = 1; many <= 4; many++) {
            RenewalClocks x = one(1, 11, many > 1 ? 12 : 0, many > 2 ? 13 : 0, many > 3 ? 14 : 0);
            int places = 0;
            for (int draws = 1; draws <= 40; draws++) {
                int place = drawnAfter(draws) % many;
                places |= 1 << place;
                Check.due("the gap " + draws + " of " + many, x.clockOf(0, 5), gaps[place]);
                Check.due("x, drawn by " + many, x.count(3), drawnAfter(draws));
                x.tick(gaps[place]);
            }
            Check.due("all places of " + many + " were drawn", places, (1 << many) - 1);
        }
    }

    private static void firstDraw() {
        Check.sentence("a number x (1 at first); (x * 421 + 1663) modulo 10000");
        RenewalClocks x = new RenewalClocks();
        Check.due("x at first", x.count(3), 1);
        x.clock(1, 9, 0, 0, 0);
        Check.due("x, below 10000 without the modulo", x.count(3), 2084);
        x.wind(0);
        Check.due("x, 879027 modulo 10000", x.count(3), 9027);
        x.clock(0, 9, 0, 0, 0);
        x.clock(2, 9, 1, 9, 0);
        x.wind(1);
        x.wind(2);
        x.tick(9);
        Check.due("x, drawn by the clock 0 alone", x.count(3), 2030);
    }

    /** A hall with one clock in which so many draws have been made. */
    private static RenewalClocks afterDraws(int draws) {
        RenewalClocks x = one(1, 1, 0, 0, 0);
        int left = draws - 1;
        while (left > 0) {
            int ticks = Math.min(left, 200);
            x.tick(ticks);
            left -= ticks;
        }
        Check.due("x after " + draws + " draws", x.count(3), drawnAfter(draws));
        return x;
    }

    private static int drawsTo(int wanted) {
        int draws = 1;
        while (drawnAfter(draws) != wanted) {
            draws++;
        }
        return draws;
    }

    private static void dueGapsAt(int drawn, int ofTwo, int ofThree, int ofFour) {
        RenewalClocks x = afterDraws(drawsTo(drawn) - 1);
        int[] due = {11, ofTwo, ofThree, ofFour};
        for (int many = 1; many <= 4; many++) {
            x.clock(1, 11, many > 1 ? 12 : 0, many > 2 ? 13 : 0, many > 3 ? 14 : 0);
            Check.due("x", x.count(3), drawn);
            Check.due("the gap of " + many + " that " + drawn + " draws", x.clockOf(1, 5), due[many - 1]);
            x.undo();
        }
    }

    private static void drawnAtTheEndsOfX() {
        Check.sentence("modulo 10000, and take x modulo n: x is 0 or 9999");
        dueGapsAt(0, 11, 11, 11);
        dueGapsAt(9999, 12, 11, 14);
        RenewalClocks x = afterDraws(drawsTo(0));
        x.wind(0);
        Check.due("x behind 0", x.count(3), 1663);
        x = afterDraws(drawsTo(9999));
        x.wind(0);
        Check.due("x behind 9999", x.count(3), 1242);
    }

    private static void roundOfX() {
        Check.sentence("modulo 10000: x goes through all its numbers");
        RenewalClocks x = afterDraws(10000);
        Check.due("x after 10000 draws", x.count(3), 1);
        x.wind(0);
        Check.due("x after 10001 draws", x.count(3), 2084);
    }

    private static void firstGapBeginsNow() {
        Check.sentence("A clock that comes begins its first gap now");
        RenewalClocks x = Halls.ofGaps(5);
        x.tick(4);
        x.clock(0, 5, 9, 0, 0);
        Check.due("the age", x.clockOf(1, 6), 0);
        Check.due("the rest", x.clockOf(1, 7), 5);
        Check.due("the tick that ends the gap of the clock 0 alone", x.tick(1), 1);
        Check.due("the age", x.clockOf(1, 6), 1);
        Check.due("the tick before its last one", x.tick(3), 0);
        Check.due("gaps told", x.clockOf(1, 8), 0);
        x.tick(1);
        Check.due("gaps told", x.clockOf(1, 8), 1);
        Check.due("gaps told by both, at the tick 9 and 10", x.tick(1), 1);
    }

    private static void shortestAndLongestGap() {
        Check.sentence("one tick of its gap less to go; if none is left, it has told a gap: it begins the next one");
        RenewalClocks x = Halls.ofGaps(1, 50, 2);
        for (int ticks = 1; ticks <= 101; ticks++) {
            int told = 1 + (ticks % 50 == 0 ? 1 : 0) + (ticks % 2 == 0 ? 1 : 0);
            Check.due("the tick " + ticks, x.tick(1), told);
        }
        Check.due("gaps of 1", x.clockOf(0, 8), 101);
        Check.due("gaps of 50", x.clockOf(1, 8), 2);
        Check.due("gaps of 2", x.clockOf(2, 8), 50);
    }

    private static void lowestClockFirst() {
        Check.sentence("each clock, the lowest one first");
        RenewalClocks x = new RenewalClocks();
        x.clock(1, 11, 12, 13, 14);
        x.clock(1, 21, 22, 23, 24);
        // the gaps are 11 and 24; at the tick 11 the first one draws 2030, at the place 2, for 13
        x.tick(11);
        Check.due("the gap of the clock 0", x.clockOf(0, 5), 13);
        // at the tick 24 both tell: the lowest draws 6293, at the place 1, the other one 1016, at the place 0
        Check.due("the tick 24", x.tick(13), 2);
        Check.due("the gap of the clock 0", x.clockOf(0, 5), 12);
        Check.due("the gap of the clock 1", x.clockOf(1, 5), 21);
        Check.due("x", x.count(3), 1016);
    }

    private static void ageAndRest() {
        Check.sentence("Its age is how many ticks of its gap have ended, its rest how many are left (at least 1)");
        RenewalClocks x = Halls.ofGaps(50, 1);
        for (int ticks = 0; ticks <= 100; ticks++) {
            Check.due("the age at " + ticks, x.clockOf(0, 6), ticks % 50);
            Check.due("the rest at " + ticks, x.clockOf(0, 7), 50 - ticks % 50);
            Check.due("the rest of the shortest gap", x.clockOf(1, 7), 1);
            x.tick(1);
        }
    }

    private static void windAtTheEndOfARound() {
        Check.sentence("to let it begin the gap that is next now (in turn and in bursts the next one)");
        RenewalClocks x = one(0, 3, 5, 7, 9);
        int[] due = {5, 7, 9, 3, 5};
        for (int gap : due) {
            Check.due("wind(0) in turn", x.wind(0), gap);
            Check.due("its rest", x.clockOf(0, 7), gap);
        }
        x = one(0, 3, 5, 0, 0);
        Check.due("wind(0) of two in turn", x.wind(0), 5);
        Check.due("wind(0) of two in turn", x.wind(0), 3);
        x = one(0, 3, 0, 0, 0);
        x.tick(2);
        Check.due("wind(0) of one alone", x.wind(0), 3);
        Check.due("its rest", x.clockOf(0, 7), 3);
        x = one(2, 3, 2, 9, 0);
        Check.due("wind(0) within the burst", x.wind(0), 3);
        Check.due("wind(0) behind the burst", x.wind(0), 9);
        Check.due("wind(0) from the last gap to the first", x.wind(0), 3);
        x = one(2, 3, 1, 9, 0);
        Check.due("wind(0) of a burst of one", x.wind(0), 9);
        Check.due("wind(0) of a burst of one", x.wind(0), 3);
        Check.sentence("otherwise one that is drawn");
        x = one(1, 11, 12, 0, 0);
        Check.due("wind(0) of two drawn, by 9027", x.wind(0), 12);
        Check.due("wind(0) of two drawn, by 2030", x.wind(0), 11);
        Check.due("x", x.count(3), 2030);
    }

    private static void windTellsNothing() {
        Check.sentence("the gap that is broken off is not told");
        RenewalClocks x = one(0, 5, 2, 0, 0);
        x.group(0);
        x.join(0, 0);
        x.tick(4);
        Check.due("wind(0) at a rest of 1", x.wind(0), 2);
        Check.due("gaps told", x.clockOf(0, 8), 0);
        Check.due("their sum", x.clockOf(0, 9), 0);
        Check.due("the longest", x.clockOf(0, 10), Check.NOT_FOUND);
        Check.due("gaps told in the group", x.groupOf(0, 3), 0);
        Check.due("gaps told by all", x.count(4), 0);
        Check.due("wind(0) at the age 0", x.wind(0), 5);
        Check.due("gaps told", x.clockOf(0, 8), 0);
        Check.due("how often it was wound", x.clockOf(0, 13), 2);
        Check.due("the tick", x.count(2), 4);
        Check.due("the gap that runs now is told", x.tick(5), 1);
        Check.due("the longest", x.clockOf(0, 10), 5);
        Check.due("wind(0) just behind a gap", x.wind(0), 5);
        Check.due("the sum of what is told", x.clockOf(0, 9), 5);
    }

    private static void passengersWait() {
        Check.sentence("A passenger of a clock comes now, and waits as many ticks as its rest tells");
        RenewalClocks x = Halls.ofGaps(50, 1);
        Check.due("passenger(0) at the beginning of the longest gap", x.passenger(0), 50);
        Check.due("passenger(1) of the shortest gap", x.passenger(1), 1);
        x.tick(49);
        Check.due("passenger(0) at the last tick of it", x.passenger(0), 1);
        x.tick(1);
        Check.due("passenger(0) when it has begun anew", x.passenger(0), 50);
        Check.due("passengers of the clock 0", x.clockOf(0, 11), 3);
        Check.due("what they waited", x.clockOf(0, 12), 101);
        Check.due("passengers of the clock 1", x.clockOf(1, 11), 1);
        Check.due("what they waited", x.clockOf(1, 12), 1);
    }

    private static void passengersOfAWoundClock() {
        Check.sentence("also if it is wound then: what is counted is the rest at this time");
        RenewalClocks x = one(0, 9, 2, 0, 0);
        x.tick(2);
        Check.due("passenger(0)", x.passenger(0), 7);
        x.wind(0);
        Check.due("what is counted, behind a wind", x.clockOf(0, 12), 7);
        Check.due("passenger(0) of the wound clock", x.passenger(0), 2);
        x.wind(0);
        x.tick(50);
        Check.due("what is counted", x.clockOf(0, 12), 9);
        Check.due("what is counted of all", x.count(6), 9);
    }

    private static void dueMeans(RenewalClocks x, int clock, int from, double mean, double met, double wait) {
        Check.dueDouble("mean(" + clock + ", " + from + ")", x.mean(clock, from), mean);
        Check.dueDouble("mean(" + clock + ", " + (from + 1) + ")", x.mean(clock, from + 1), met);
        Check.dueDouble("mean(" + clock + ", " + (from + 2) + ")", x.mean(clock, from + 2), wait);
    }

    private static void dueNoMeans(RenewalClocks x) {
        for (int what = 0; what <= 2; what++) {
            Check.due("mean(0, " + what + ")", x.mean(0, what), Check.NOT_FOUND);
        }
    }

    private static void meansOfTheFirstGap() {
        Check.sentence("Of a clock that told gaps: the mean, the met mean, the wait");
        RenewalClocks x = one(0, 4, 6, 0, 0);
        dueNoMeans(x);
        x.tick(3);
        dueNoMeans(x);
        x.wind(0);
        x.wind(0);
        dueNoMeans(x);
        x.tick(4);
        dueMeans(x, 0, 0, 4.0, 4.0, 10.0 / 4.0);
        x.tick(5);
        dueMeans(x, 0, 0, 4.0, 4.0, 10.0 / 4.0);
        x.tick(1);
        dueMeans(x, 0, 0, 5.0, 52.0 / 10.0, 31.0 / 10.0);
        x.undo();
        x.undo();
        x.undo();
        dueNoMeans(x);
    }

    private static void meansOfTheShortestAndLongest() {
        Check.sentence("g * (g + 1) / 2 over its gaps g, of 1 and of 50");
        RenewalClocks x = Halls.ofGaps(1, 50);
        x.tick(50);
        dueMeans(x, 0, 0, 1.0, 1.0, 1.0);
        dueMeans(x, 1, 0, 50.0, 50.0, 25.5);
        x = one(0, 1, 50, 0, 0);
        x.tick(51);
        dueMeans(x, 0, 0, 51.0 / 2.0, 2501.0 / 51.0, 1276.0 / 51.0);
        Check.sentence("their sum, as a double, divided by how many they are, up to the last tick");
        x = Halls.beforeLastTick(0, 1, 50);
        dueMeans(x, 0, 0, 1.0, 1.0, 1.0);
        dueMeans(x, 1, 0, 50.0, 50.0, 25.5);
        Check.due("gaps of 1", x.clockOf(0, 8), 99999);
        Check.due("their sum", x.clockOf(0, 9), 99999);
        Check.due("gaps of 50", x.clockOf(1, 8), 1999);
        Check.due("gaps told by all", x.count(4), 101998);
    }

    private static void meansByLaw() {
        Check.sentence("of 0 and 1 each number that is a gap once, of 2 b gaps a, and c once");
        for (int law = 0; law <= 1; law++) {
            dueMeans(one(law, 1, 0, 0, 0), 0, 3, 1.0, 1.0, 1.0);
            dueMeans(one(law, 50, 0, 0, 0), 0, 3, 50.0, 50.0, 25.5);
            dueMeans(one(law, 2, 3, 0, 0), 0, 3, 5.0 / 2.0, 13.0 / 5.0, 9.0 / 5.0);
            dueMeans(one(law, 2, 3, 4, 0), 0, 3, 3.0, 29.0 / 9.0, 19.0 / 9.0);
            dueMeans(one(law, 2, 3, 4, 50), 0, 3, 59.0 / 4.0, 2529.0 / 59.0, 1294.0 / 59.0);
            dueMeans(one(law, 2, 2, 2, 4), 0, 3, 10.0 / 4.0, 28.0 / 10.0, 19.0 / 10.0);
        }
        dueMeans(one(2, 1, 1, 1, 0), 0, 3, 1.0, 1.0, 1.0);
        dueMeans(one(2, 2, 1, 50, 0), 0, 3, 52.0 / 2.0, 2504.0 / 52.0, 1278.0 / 52.0);
        dueMeans(one(2, 2, 50, 1, 0), 0, 3, 101.0 / 51.0, 201.0 / 101.0, 151.0 / 101.0);
        dueMeans(one(2, 50, 50, 50, 0), 0, 3, 50.0, 50.0, 25.5);
    }

    private static void meansByLawStay() {
        Check.sentence("By the law alone");
        RenewalClocks x = one(1, 2, 3, 0, 0);
        for (int i = 0; i < 5; i++) {
            dueMeans(x, 0, 3, 5.0 / 2.0, 13.0 / 5.0, 9.0 / 5.0);
            x.tick(1);
            x.wind(0);
            x.passenger(0);
        }
    }
}
