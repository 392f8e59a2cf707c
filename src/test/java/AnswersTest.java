/** Promises 9, 10, 12, 13, 15, 16: clockOf, mean, next, would, longer, count. */
public final class AnswersTest {
    public static void main(String[] args) {
        clockOf();
        clockOfErrors();
        meansOfTold();
        meansByLaw();
        meanErrors();
        next();
        would();
        wouldErrors();
        longer();
        count();
        Check.end();
    }

    private static void dueOf(RenewalClocks x, int clock, int... told) {
        for (int what = 0; what < told.length; what++) {
            Check.due("clockOf(" + clock + ", " + what + ")", x.clockOf(clock, what), told[what]);
        }
    }

    private static void clockOf() {
        RenewalClocks x = new RenewalClocks();
        x.clock(0, 9, 4, 7, 0);
        dueOf(x, 0, 0, 9, 4, 7, 0, 9, 0, 9, 0, 0, Check.NOT_FOUND, 0, 0, 0);
        x.tick(11);
        x.passenger(0);
        x.passenger(0);
        dueOf(x, 0, 0, 9, 4, 7, 0, 4, 2, 2, 1, 9, 9, 2, 4, 0);
        x.wind(0);
        dueOf(x, 0, 0, 9, 4, 7, 0, 7, 0, 7, 1, 9, 9, 2, 4, 1);
        x.tick(7);
        dueOf(x, 0, 0, 9, 4, 7, 0, 9, 0, 9, 2, 16, 9, 2, 4, 1);
        x.clock(2, 3, 2, 8, 0);
        x.tick(14);
        dueOf(x, 1, 2, 3, 2, 8, 0, 3, 0, 3, 3, 14, 8, 0, 0, 0);
    }

    private static void clockOfErrors() {
        RenewalClocks x = new RenewalClocks();
        Check.due("clockOf(0, 0)", x.clockOf(0, 0), Check.INVALID);
        x.clock(0, 9, 4, 7, 0);
        int[] wrong = {-1, 14, Integer.MAX_VALUE, Integer.MIN_VALUE};
        for (int what : wrong) {
            Check.due("clockOf(0, " + what + ")", x.clockOf(0, what), Check.INVALID);
            Check.due("clockOf(" + what + ", 0)", x.clockOf(what, 0), Check.INVALID);
        }
        Check.due("clockOf(1, 0)", x.clockOf(1, 0), Check.INVALID);
        x.undo();
        Check.due("clockOf(0, 0) after undo()", x.clockOf(0, 0), Check.INVALID);
    }

    private static void meansOfTold() {
        RenewalClocks x = new RenewalClocks();
        x.clock(0, 3, 5, 10, 0);
        x.tick(3);
        Check.dueDouble("mean(0, 0)", x.mean(0, 0), 3.0);
        Check.dueDouble("mean(0, 1)", x.mean(0, 1), 3.0);
        Check.dueDouble("mean(0, 2)", x.mean(0, 2), 2.0);
        x.tick(15);
        Check.dueDouble("mean(0, 0)", x.mean(0, 0), 18.0 / 3.0);
        Check.dueDouble("mean(0, 1)", x.mean(0, 1), 134.0 / 18.0);
        Check.dueDouble("mean(0, 2)", x.mean(0, 2), 76.0 / 18.0);
        x.tick(2);
        x.wind(0);
        Check.dueDouble("mean(0, 0), one broken off", x.mean(0, 0), 6.0);
        x.tick(5);
        Check.dueDouble("mean(0, 0)", x.mean(0, 0), 23.0 / 4.0);
        Check.dueDouble("mean(0, 1)", x.mean(0, 1), 159.0 / 23.0);
        Check.dueDouble("mean(0, 2)", x.mean(0, 2), 91.0 / 23.0);
        x = new RenewalClocks();
        x.clock(0, 1, 0, 0, 0);
        x.tick(1);
        for (int what = 0; what <= 5; what++) {
            Check.dueDouble("mean(0, " + what + ") of gaps of 1", x.mean(0, what), 1.0);
        }
    }

    private static void dueByLaw(int law, int a, int b, int c, int d, double many, double sum, double squares, double waits) {
        RenewalClocks x = new RenewalClocks();
        x.clock(law, a, b, c, d);
        for (int round = 0; round < 2; round++) {
            String clock = "of the clock " + law + ", " + a + ", " + b + ", " + c + ", " + d;
            Check.dueDouble("mean(0, 3) " + clock, x.mean(0, 3), sum / many);
            Check.dueDouble("mean(0, 4) " + clock, x.mean(0, 4), squares / sum);
            Check.dueDouble("mean(0, 5) " + clock, x.mean(0, 5), waits / sum);
            x.tick(77);
        }
    }

    private static void meansByLaw() {
        for (int law = 0; law <= 1; law++) {
            dueByLaw(law, 7, 0, 0, 0, 1, 7, 49, 28);
            dueByLaw(law, 3, 5, 0, 0, 2, 8, 34, 21);
            dueByLaw(law, 3, 5, 10, 0, 3, 18, 134, 76);
            dueByLaw(law, 3, 5, 10, 2, 4, 20, 138, 79);
            dueByLaw(law, 4, 4, 4, 1, 4, 13, 49, 31);
            dueByLaw(law, 50, 50, 50, 50, 4, 200, 10000, 5100);
        }
        dueByLaw(2, 2, 3, 10, 0, 4, 16, 112, 64);
        dueByLaw(2, 50, 1, 1, 0, 2, 51, 2501, 1276);
        dueByLaw(2, 1, 50, 50, 0, 51, 100, 2550, 1325);
        dueByLaw(2, 50, 50, 50, 0, 51, 2550, 127500, 65025);
    }

    private static void meanErrors() {
        RenewalClocks x = new RenewalClocks();
        Check.due("mean(0, 3)", x.mean(0, 3), Check.INVALID);
        x.clock(0, 9, 4, 7, 0);
        x.tick(8);
        for (int what = 0; what <= 2; what++) {
            Check.due("mean(0, " + what + ") without gaps", x.mean(0, what), Check.NOT_FOUND);
        }
        int[] wrong = {-1, 6, Integer.MAX_VALUE, Integer.MIN_VALUE};
        for (int what : wrong) {
            Check.due("mean(0, " + what + ")", x.mean(0, what), Check.INVALID);
            Check.due("mean(" + what + ", 3)", x.mean(what, 3), Check.INVALID);
        }
        Check.due("mean(1, 0)", x.mean(1, 0), Check.INVALID);
    }

    private static void next() {
        RenewalClocks x = new RenewalClocks();
        Check.due("next(0) without clocks", x.next(0), Check.NOT_FOUND);
        Check.due("next(-1) without clocks", x.next(-1), Check.INVALID);
        int[] gaps = {9, 4, 9, 2, 4, 9};
        for (int gap : gaps) {
            x.clock(0, gap, 0, 0, 0);
        }
        int[] places = {3, 1, 4, 0, 2, 5};
        for (int place = 0; place < places.length; place++) {
            Check.due("next(" + place + ")", x.next(place), places[place]);
        }
        Check.due("next(6)", x.next(6), Check.NOT_FOUND);
        Check.due("next(MAX)", x.next(Integer.MAX_VALUE), Check.NOT_FOUND);
        Check.due("next(-1)", x.next(-1), Check.INVALID);
        Check.due("next(MIN)", x.next(Integer.MIN_VALUE), Check.INVALID);
        x.tick(3);
        // the rests are 6, 1, 6, 1, 1, 6
        int[] later = {1, 3, 4, 0, 2, 5};
        for (int place = 0; place < later.length; place++) {
            Check.due("next(" + place + ") later", x.next(place), later[place]);
        }
    }

    private static void would() {
        RenewalClocks x = new RenewalClocks();
        x.clock(1, 1, 9, 20, 4);
        x.clock(0, 3, 5, 0, 0);
        x.clock(1, 6, 2, 11, 0);
        x.clock(2, 2, 3, 10, 0);
        int[] ahead = {1, 2, 3, 17, 199, 200};
        for (int ticks : ahead) {
            int[] told = new int[16];
            for (int i = 0; i < 16; i++) {
                told[i] = x.would(i / 4, ticks, i % 4);
            }
            int[] before = new int[4];
            for (int clock = 0; clock < 4; clock++) {
                before[clock] = x.clockOf(clock, 8);
            }
            x.tick(ticks);
            for (int clock = 0; clock < 4; clock++) {
                String call = "would(" + clock + ", " + ticks + ", ";
                Check.due(call + "0)", told[4 * clock], x.clockOf(clock, 6));
                Check.due(call + "1)", told[4 * clock + 1], x.clockOf(clock, 7));
                Check.due(call + "2)", told[4 * clock + 2], x.clockOf(clock, 8) - before[clock]);
                Check.due(call + "3)", told[4 * clock + 3], x.clockOf(clock, 5));
            }
        }
        x = new RenewalClocks();
        x.clock(0, 3, 5, 0, 0);
        Check.due("would(0, 2, 0)", x.would(0, 2, 0), 2);
        Check.due("would(0, 2, 1)", x.would(0, 2, 1), 1);
        Check.due("would(0, 2, 2)", x.would(0, 2, 2), 0);
        Check.due("would(0, 2, 3)", x.would(0, 2, 3), 3);
        Check.due("would(0, 3, 0)", x.would(0, 3, 0), 0);
        Check.due("would(0, 3, 1)", x.would(0, 3, 1), 5);
        Check.due("would(0, 3, 2)", x.would(0, 3, 2), 1);
        Check.due("would(0, 3, 3)", x.would(0, 3, 3), 5);
        Check.due("would(0, 200, 2)", x.would(0, 200, 2), 50);
        Check.due("the tick", x.count(2), 0);
        Check.due("the states", x.count(9), 1);
    }

    private static void wouldErrors() {
        RenewalClocks x = new RenewalClocks();
        Check.due("would(0, 1, 0)", x.would(0, 1, 0), Check.INVALID);
        x.clock(0, 3, 5, 0, 0);
        int[] ticks = {0, -1, 201, Integer.MAX_VALUE, Integer.MIN_VALUE};
        for (int wrong : ticks) {
            Check.due("would(0, " + wrong + ", 0)", x.would(0, wrong, 0), Check.INVALID);
        }
        int[] whats = {-1, 4, Integer.MAX_VALUE, Integer.MIN_VALUE};
        for (int wrong : whats) {
            Check.due("would(0, 1, " + wrong + ")", x.would(0, 1, wrong), Check.INVALID);
        }
        Check.due("would(1, 1, 0)", x.would(1, 1, 0), Check.INVALID);
        Check.due("would(-1, 1, 0)", x.would(-1, 1, 0), Check.INVALID);
    }

    private static void longer() {
        RenewalClocks x = new RenewalClocks();
        Check.dueDouble("longer() without clocks", x.longer(), 0.0);
        x.clock(0, 3, 5, 10, 0);
        x.clock(2, 2, 3, 10, 0);
        x.clock(1, 7, 0, 0, 0);
        Check.dueDouble("longer() without passengers", x.longer(), 0.0);
        x.passenger(0);
        Check.dueDouble("longer()", x.longer(), 3.0 - 76.0 / 18.0);
        x.passenger(0);
        x.passenger(0);
        x.passenger(1);
        Check.dueDouble("longer()", x.longer(), 11.0 - (0.0 + 3.0 * (76.0 / 18.0) + 4.0));
        x.tick(3);
        x.passenger(0);
        x.passenger(2);
        Check.dueDouble("longer()", x.longer(), 20.0 - (0.0 + 4.0 * (76.0 / 18.0) + 4.0 + 4.0));
        x = new RenewalClocks();
        x.clock(0, 7, 0, 0, 0);
        x.tick(3);
        x.passenger(0);
        Check.dueDouble("longer(), as by the law", x.longer(), 0.0);
        x.tick(4);
        x.passenger(0);
        Check.dueDouble("longer(), above the law", x.longer(), 3.0);
        x.tick(6);
        x.passenger(0);
        x.passenger(0);
        Check.dueDouble("longer(), below the law", x.longer(), -3.0);
        x = new RenewalClocks();
        x.clock(0, 1, 2, 0, 0);
        x.passenger(0);
        Check.dueDouble("longer(), a fraction below the law", x.longer(), 1.0 - 4.0 / 3.0);
        x.undo();
        x.tick(1);
        x.passenger(0);
        Check.dueDouble("longer(), a fraction above the law", x.longer(), 2.0 - 4.0 / 3.0);
        RenewalClocks little = new RenewalClocks();
        little.clock(0, 17, 3, 0, 0);
        little.tick(9);
        little.passenger(0);
        Check.dueDouble("longer(), a little above the law", little.longer(), 8.0 - 159.0 / 20.0);
        x.tick(2);
        x.passenger(0);
        x.passenger(0);
        // 4 - 3 * (4 / 3): tells at which place the sum is rounded
        Check.dueDouble("longer(), rounded", x.longer(), 4.0 - (0.0 + 3.0 * (4.0 / 3.0)));
        x.clock(0, 1, 1, 1, 7);
        for (int i = 0; i < 10; i++) {
            x.passenger(1);
            double due = (double) x.count(6) - (0.0 + 3.0 * (4.0 / 3.0) + (i + 1.0) * (31.0 / 10.0));
            Check.dueDouble("longer(), " + i, x.longer(), due);
        }
    }

    private static void dueCounts(RenewalClocks x, int... counts) {
        for (int what = 0; what < counts.length; what++) {
            Check.due("count(" + what + ")", x.count(what), counts[what]);
        }
    }

    private static void count() {
        RenewalClocks x = new RenewalClocks();
        dueCounts(x, 0, 0, 0, 1, 0, 0, 0, 0, Check.NOT_FOUND, 0, 0);
        x.clock(0, 9, 0, 0, 0);
        dueCounts(x, 1, 0, 0, 1, 0, 0, 0, 0, 0, 1, 0);
        x.clock(1, 1, 9, 20, 4);
        x.clock(2, 2, 3, 10, 0);
        dueCounts(x, 3, 0, 0, 2084, 0, 0, 0, 2, 0, 3, 0);
        x.group(1);
        x.passenger(0);
        x.passenger(2);
        x.type(';');
        dueCounts(x, 3, 1, 0, 2084, 0, 2, 11, 2, 0, 4, 1);
        x.tick(1);
        // the clock 1 draws 9027, modulo 4 is 3: a gap of 4
        dueCounts(x, 3, 1, 1, 9027, 1, 2, 11, 4, 1, 4, 1);
        x.tick(3);
        dueCounts(x, 3, 1, 4, 9027, 3, 2, 11, 2, 4, 4, 1);
        x.tick(4);
        // the clock 1 draws 2030, modulo 4 is 2: a gap of 20
        dueCounts(x, 3, 1, 8, 2030, 5, 2, 11, 1, 8, 4, 1);
        x.tick(1);
        // the clock 0 begins anew, the clock 1 has been in its 20 for 4 ticks, the clock 2 in its 10 for 3
        dueCounts(x, 3, 1, 9, 2030, 6, 2, 11, 0, 4, 4, 1);
        x.clock(0, 1, 0, 0, 0);
        x.clock(0, 2, 0, 0, 0);
        x.clock(0, 1, 0, 0, 0);
        dueCounts(x, 6, 1, 9, 2030, 6, 2, 11, 8 + 32, 4, 4, 1);
        int[] wrong = {-1, 11, Integer.MAX_VALUE, Integer.MIN_VALUE};
        for (int what : wrong) {
            Check.due("count(" + what + ")", x.count(what), Check.INVALID);
        }
    }
}
