/** Halls that several tests begin with. */
final class Halls {
    /** 60 characters, 20 orders, possible in every hall that has a clock. */
    static final String FULL_TEXT = "p0;p0;p0;p0;p0;p0;p0;p0;p0;p0;p0;p0;p0;p0;p0;p0;p0;p0;p0;p0;";
    private static final String FAR_TEXT = "t200;t200;t200;t200;t200;t200;t200;t200;t200;t200;t200;t200;";

    private Halls() {
    }

    static RenewalClocks empty() {
        return new RenewalClocks();
    }

    /** Clocks in turn of one gap each. */
    static RenewalClocks ofGaps(int... gaps) {
        RenewalClocks x = new RenewalClocks();
        for (int gap : gaps) {
            x.clock(0, gap, 0, 0, 0);
        }
        return x;
    }

    /** Clocks in turn of one gap each, all of them in the group 0. */
    static RenewalClocks groupOfGaps(int... gaps) {
        RenewalClocks x = ofGaps(gaps);
        x.group(0);
        for (int clock = 0; clock < gaps.length; clock++) {
            x.join(0, clock);
        }
        return x;
    }

    /** One clock of each law and one group of each law, with nothing told and no text. */
    static RenewalClocks ofEachLaw() {
        RenewalClocks x = new RenewalClocks();
        x.clock(0, 3, 5, 0, 0);
        x.clock(1, 9, 4, 7, 0);
        x.clock(2, 2, 3, 10, 0);
        x.group(0);
        x.group(1);
        x.group(2);
        return x;
    }

    /** Everything full: 6 clocks, 4 groups, 4 clocks in the group 0, 4 states, 60 characters. */
    static RenewalClocks full() {
        RenewalClocks x = ofGaps(4, 6, 4, 6);
        x.clock(0, 7, 3, 0, 0);
        x.clock(1, 2, 5, 9, 0);
        x.group(0);
        x.group(1);
        x.group(2);
        x.group(0);
        for (int clock = 0; clock < 4; clock++) {
            x.join(0, clock);
        }
        x.join(1, 5);
        x.join(3, 4);
        x.tick(13);
        x.passenger(5);
        x.wind(4);
        x.tick(1);
        return Check.typed(x, FULL_TEXT);
    }

    /** At the tick 99999 less some, which are 199 at most; no text is left. */
    static RenewalClocks beforeLastTick(int ticks, int... gaps) {
        RenewalClocks x = Check.typed(ofGaps(gaps), FAR_TEXT);
        for (int i = 0; i < 41; i++) {
            x.play();
        }
        x.clearText();
        for (int i = 0; i < 7; i++) {
            x.tick(200);
        }
        if (ticks < 199) {
            x.tick(199 - ticks);
        }
        return x;
    }
}
