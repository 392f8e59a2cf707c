/** Clocks that begin anew again and again; what each call promises stands in ../shared/DOC.md. */
public final class RenewalClocks {
    public static final int INVALID_ARGUMENT = -1000001;
    public static final int NOT_POSSIBLE = -1000002;
    public static final int LIMIT_REACHED = -1000003;
    public static final int NOT_FOUND = -1000004;

    private static final int IN_TURN = 0;
    private static final int DRAWN = 1;
    private static final int IN_BURSTS = 2;

    /** Some of what clockOf tells. */
    private static final int TOLD = 8;
    private static final int SUM = 9;
    private static final int LONGEST = 10;
    private static final int PASSENGERS = 11;
    private static final int WAITED = 12;

    private static final int MOST_CLOCKS = 6;
    private static final int ALL_CLOCKS = (1 << MOST_CLOCKS) - 1;
    private static final int MOST_GROUPS = 4;
    private static final int MOST_IN_GROUP = 4;
    private static final int MOST_STATES = 4;
    private static final int MOST_SIGNS = 60;
    private static final int LONGEST_GAP = 50;
    private static final int LAW_NUMBERS = 4;
    private static final int MOST_TICKS = 200;
    private static final int LAST_TICK = 99999;

    private static final int ORDER_NUMBERS = 5;
    private static final int MOST_DIGITS = 3;
    private static final int NO_FAULT = 0;
    private static final int WRONG_FORM = 1;
    private static final int REFUSED = 2;

    private final Hall hall = new Hall();
    /** What would be is tried out here, so that no call makes a hall of its own. */
    private final Hall trial = new Hall();
    private final History history = new History();
    private final Text text = new Text();
    private final Orders orders = new Orders(text);

    public RenewalClocks() {
    }

    // ---- clocks

    public int clock(int law, int a, int b, int c, int d) {
        history.note(hall);
        return settle(hall.addClock(law, a, b, c, d));
    }

    public int wind(int clock) {
        history.note(hall);
        return settle(hall.windClock(clock));
    }

    public int tick(int ticks) {
        history.note(hall);
        return settle(hall.endTicks(ticks));
    }

    public int passenger(int clock) {
        history.note(hall);
        return settle(hall.addPassenger(clock));
    }

    // ---- groups

    public int group(int law) {
        history.note(hall);
        return settle(hall.addGroup(law));
    }

    public int join(int group, int clock) {
        history.note(hall);
        return settle(hall.joinGroup(group, clock));
    }

    public int leave(int group, int clock) {
        history.note(hall);
        return settle(hall.leaveGroup(group, clock));
    }

    // ---- what there is

    public int clockOf(int clock, int what) {
        Clock asked = hall.clockAt(clock);
        if (asked == null || what < 0 || what > 13) {
            return INVALID_ARGUMENT;
        }
        return asked.tell(what);
    }

    public long mean(int clock, int what) {
        Clock asked = hall.clockAt(clock);
        if (asked == null || what < 0 || what > 5) {
            return INVALID_ARGUMENT;
        }
        if (what >= 3) {
            return bitsOf(asked.round.meanOf(what - 3));
        }
        if (asked.told.many == 0) {
            return NOT_FOUND;
        }
        return bitsOf(asked.told.meanOf(what));
    }

    public int groupOf(int group, int what) {
        Group asked = hall.groupAt(group);
        if (asked == null || what < 0 || what > 5) {
            return INVALID_ARGUMENT;
        }
        switch (what) {
            case 0:
                return asked.law;
            case 1:
                return asked.members;
            case 2:
                return hall.leastRest(asked.members);
            case 3:
                return asked.told;
            case 4:
                return asked.met;
            default:
                return hall.sumOver(asked.members, SUM);
        }
    }

    // ---- what would be

    public int next(int place) {
        if (place < 0) {
            return INVALID_ARGUMENT;
        }
        return hall.clockInPlace(place);
    }

    public int would(int clock, int ticks, int what) {
        if (ticks < 1 || ticks > MOST_TICKS || what < 0 || what > 3) {
            return INVALID_ARGUMENT;
        }
        trial.copyFrom(hall);
        Clock tried = trial.clockAt(clock);
        if (tried == null) {
            return INVALID_ARGUMENT;
        }
        int toldBefore = tried.told.many;
        for (int i = 0; i < ticks; i++) {
            trial.endTick();
        }
        switch (what) {
            case 0:
                return tried.age();
            case 1:
                return tried.rest;
            case 2:
                return tried.told.many - toldBefore;
            default:
                return tried.gap;
        }
    }

    public int meets(int group) {
        trial.copyFrom(hall);
        Group tried = trial.groupAt(group);
        if (tried == null) {
            return INVALID_ARGUMENT;
        }
        int metBefore = tried.met;
        for (int ticks = 1; ticks <= MOST_TICKS; ticks++) {
            trial.endTick();
            if (tried.met > metBefore) {
                return ticks;
            }
        }
        return NOT_FOUND;
    }

    public long longer() {
        return bitsOf((double) hall.sumOver(ALL_CLOCKS, WAITED) - hall.waitDueToAll());
    }

    public int count(int what) {
        switch (what) {
            case 0:
                return hall.clockCount;
            case 1:
                return hall.groupCount;
            case 2:
                return hall.now;
            case 3:
                return hall.drawn;
            case 4:
                return hall.sumOver(ALL_CLOCKS, TOLD);
            case 5:
                return hall.sumOver(ALL_CLOCKS, PASSENGERS);
            case 6:
                return hall.sumOver(ALL_CLOCKS, WAITED);
            case 7:
                return hall.aboutToTell();
            case 8:
                return hall.greatestAge();
            case 9:
                return history.kept;
            case 10:
                return text.length;
            default:
                return INVALID_ARGUMENT;
        }
    }

    public int undo() {
        if (!history.restore(hall)) {
            return NOT_POSSIBLE;
        }
        return history.kept;
    }

    // ---- texts

    public int type(int character) {
        if (character < 32 || character > 126) {
            return INVALID_ARGUMENT;
        }
        if (!text.append((char) character)) {
            return LIMIT_REACHED;
        }
        return text.length;
    }

    public int clearText() {
        int had = text.length;
        text.length = 0;
        return had;
    }

    public int fault(int what) {
        if (what < 0 || what > 2) {
            return INVALID_ARGUMENT;
        }
        orders.tryOut(hall, trial);
        if (orders.reason == NO_FAULT) {
            return NOT_FOUND;
        }
        if (what == 0) {
            return orders.start;
        }
        return what == 1 ? orders.reason : orders.cause;
    }

    public int play() {
        orders.tryOut(hall, trial);
        if (orders.reason != NO_FAULT) {
            return NOT_POSSIBLE;
        }
        history.note(hall);
        hall.copyFrom(trial);
        return settle(orders.many);
    }

    /** All errors are below 0 and no answer of a change is, so the answer alone tells what to keep. */
    private int settle(int answer) {
        if (answer >= 0) {
            history.keep();
        }
        return answer;
    }

    /**
     * The bits of a double that is neither subnormal nor -0.0, by arithmetic alone: LANGUAGE.md
     * leaves no library call for it. Halving, doubling and the cast are exact here.
     */
    private static long bitsOf(double value) {
        if (value == 0.0) {
            return 0L;
        }
        double scaled = value < 0.0 ? -value : value;
        int exponent = 1023;
        for (int i = 0; i < 1100 && scaled >= 2.0; i++) {
            scaled = scaled / 2.0;
            exponent++;
        }
        for (int i = 0; i < 1100 && scaled < 1.0; i++) {
            scaled = scaled * 2.0;
            exponent--;
        }
        long fraction = (long) ((scaled - 1.0) * 4503599627370496.0);
        long bits = ((long) exponent << 52) | fraction;
        return value < 0.0 ? bits | (1L << 63) : bits;
    }

    private static boolean isLaw(int law) {
        return law >= IN_TURN && law <= IN_BURSTS;
    }

    private static boolean isGap(int number) {
        return number >= 1 && number <= LONGEST_GAP;
    }

    private static boolean isClock(int law, int a, int b, int c, int d) {
        if (!isLaw(law) || !isGap(a)) {
            return false;
        }
        if (law == IN_BURSTS) {
            return isGap(b) && isGap(c) && d == 0;
        }
        return mayFollow(a, b) && mayFollow(b, c) && mayFollow(c, d);
    }

    /** Nothing but 0 may stand behind a 0. */
    private static boolean mayFollow(int before, int number) {
        return number == 0 || before != 0 && isGap(number);
    }

    /** A tally of gaps, from which their means are told. */
    private static final class Gaps {
        private int many;
        private int sum;
        private int squares;
        private int waits;
        private int longest;

        void empty() {
            many = 0;
            sum = 0;
            squares = 0;
            waits = 0;
            longest = 0;
        }

        void add(int gap, int times) {
            many += times;
            sum += gap * times;
            squares += gap * gap * times;
            waits += gap * (gap + 1) / 2 * times;
            if (gap > longest) {
                longest = gap;
            }
        }

        void copyFrom(Gaps other) {
            many = other.many;
            sum = other.sum;
            squares = other.squares;
            waits = other.waits;
            longest = other.longest;
        }

        /** 0: the mean; 1: the met mean; 2: the wait. */
        double meanOf(int kind) {
            if (many <= 0 || sum <= 0) {
                return 0.0;
            }
            if (kind == 0) {
                return (double) sum / (double) many;
            }
            return (double) (kind == 1 ? squares : waits) / (double) sum;
        }
    }

    private static final class Clock {
        private int law;
        private final int[] numbers = new int[LAW_NUMBERS];
        /** Which gap of the round runs now; -1 before the first one. */
        private int place;
        private int gap;
        private int rest;
        private int passengers;
        private int waited;
        private int wound;
        private final Gaps told = new Gaps();
        /** The gaps of one round of the law: what is told by the law alone. */
        private final Gaps round = new Gaps();

        void set(int newLaw, int a, int b, int c, int d) {
            law = newLaw;
            numbers[0] = a;
            numbers[1] = b;
            numbers[2] = c;
            numbers[3] = d;
            place = -1;
            gap = 0;
            rest = 0;
            passengers = 0;
            waited = 0;
            wound = 0;
            told.empty();
            fillRound();
        }

        private void fillRound() {
            round.empty();
            if (law == IN_BURSTS) {
                round.add(numbers[0], numbers[1]);
                round.add(numbers[2], 1);
                return;
            }
            for (int i = 0; i < numbers.length; i++) {
                if (numbers[i] > 0) {
                    round.add(numbers[i], 1);
                }
            }
        }

        void copyFrom(Clock other) {
            law = other.law;
            System.arraycopy(other.numbers, 0, numbers, 0, LAW_NUMBERS);
            place = other.place;
            gap = other.gap;
            rest = other.rest;
            passengers = other.passengers;
            waited = other.waited;
            wound = other.wound;
            told.copyFrom(other.told);
            round.copyFrom(other.round);
        }

        int age() {
            return gap - rest;
        }

        int placeInTurn() {
            return place + 1 < round.many ? place + 1 : 0;
        }

        void beginAt(int newPlace) {
            place = newPlace;
            if (law == IN_BURSTS) {
                gap = place < numbers[1] ? numbers[0] : numbers[2];
            } else {
                gap = place >= 0 && place < numbers.length ? numbers[place] : numbers[0];
            }
            rest = gap;
        }

        /** Tells whether the gap has come to its end with this tick. */
        boolean passTick() {
            rest--;
            if (rest > 0) {
                return false;
            }
            told.add(gap, 1);
            return true;
        }

        int tell(int what) {
            if (what >= 1 && what <= LAW_NUMBERS) {
                return numbers[what - 1];
            }
            switch (what) {
                case 0:
                    return law;
                case 5:
                    return gap;
                case 6:
                    return age();
                case 7:
                    return rest;
                case TOLD:
                    return told.many;
                case SUM:
                    return told.sum;
                case LONGEST:
                    return told.many == 0 ? NOT_FOUND : told.longest;
                case PASSENGERS:
                    return passengers;
                case WAITED:
                    return waited;
                default:
                    return wound;
            }
        }
    }

    private static final class Group {
        private int law;
        private int members;
        private int told;
        private int met;

        void set(int newLaw) {
            law = newLaw;
            members = 0;
            told = 0;
            met = 0;
        }

        void copyFrom(Group other) {
            law = other.law;
            members = other.members;
            told = other.told;
            met = other.met;
        }

        boolean has(int clock) {
            return (members & (1 << clock)) != 0;
        }

        int size() {
            return Integer.bitCount(members);
        }

        void passTick(int tellers) {
            int ours = Integer.bitCount(members & tellers);
            told += ours;
            if (ours >= 2) {
                met++;
            }
        }
    }

    /** All that a change can change and that the history keeps. */
    private static final class Hall {
        private final Clock[] clocks = new Clock[MOST_CLOCKS];
        private int clockCount;
        private final Group[] groups = new Group[MOST_GROUPS];
        private int groupCount;
        private int now;
        /** The number x of the document. */
        private int drawn = 1;

        Hall() {
            for (int i = 0; i < clocks.length; i++) {
                clocks[i] = new Clock();
            }
            for (int i = 0; i < groups.length; i++) {
                groups[i] = new Group();
            }
        }

        void copyFrom(Hall other) {
            clockCount = other.clockCount;
            for (int i = 0; i < clockCount && i < MOST_CLOCKS; i++) {
                clocks[i].copyFrom(other.clocks[i]);
            }
            groupCount = other.groupCount;
            for (int i = 0; i < groupCount && i < MOST_GROUPS; i++) {
                groups[i].copyFrom(other.groups[i]);
            }
            now = other.now;
            drawn = other.drawn;
        }

        /** Null if there is no such clock. */
        Clock clockAt(int number) {
            if (number < 0 || number >= clockCount || number >= clocks.length) {
                return null;
            }
            return clocks[number];
        }

        /** Null if there is no such group. */
        Group groupAt(int number) {
            if (number < 0 || number >= groupCount || number >= groups.length) {
                return null;
            }
            return groups[number];
        }

        int addClock(int law, int a, int b, int c, int d) {
            if (!isClock(law, a, b, c, d)) {
                return INVALID_ARGUMENT;
            }
            if (clockCount >= clocks.length) {
                return LIMIT_REACHED;
            }
            Clock added = clocks[clockCount];
            added.set(law, a, b, c, d);
            beginGap(added);
            clockCount++;
            return clockCount - 1;
        }

        int windClock(int number) {
            Clock clock = clockAt(number);
            if (clock == null) {
                return INVALID_ARGUMENT;
            }
            beginGap(clock);
            clock.wound++;
            return clock.gap;
        }

        private void beginGap(Clock clock) {
            clock.beginAt(clock.law == DRAWN ? draw(clock.round.many) : clock.placeInTurn());
        }

        private int draw(int among) {
            drawn = (drawn * 421 + 1663) % 10000;
            return among > 0 ? drawn % among : 0;
        }

        int endTicks(int ticks) {
            if (ticks < 1 || ticks > MOST_TICKS) {
                return INVALID_ARGUMENT;
            }
            if (now + ticks > LAST_TICK) {
                return LIMIT_REACHED;
            }
            int told = 0;
            for (int i = 0; i < ticks; i++) {
                told += endTick();
            }
            return told;
        }

        int endTick() {
            now++;
            int tellers = 0;
            for (int i = 0; i < clockCount && i < clocks.length; i++) {
                if (clocks[i].passTick()) {
                    tellers |= 1 << i;
                    beginGap(clocks[i]);
                }
            }
            for (int i = 0; i < groupCount && i < groups.length; i++) {
                groups[i].passTick(tellers);
            }
            return Integer.bitCount(tellers);
        }

        int addPassenger(int number) {
            Clock clock = clockAt(number);
            if (clock == null) {
                return INVALID_ARGUMENT;
            }
            clock.passengers++;
            clock.waited += clock.rest;
            return clock.rest;
        }

        int addGroup(int law) {
            if (!isLaw(law)) {
                return INVALID_ARGUMENT;
            }
            if (groupCount >= groups.length) {
                return LIMIT_REACHED;
            }
            groups[groupCount].set(law);
            groupCount++;
            return groupCount - 1;
        }

        int joinGroup(int number, int clockNumber) {
            Group group = groupAt(number);
            Clock clock = clockAt(clockNumber);
            if (group == null || clock == null) {
                return INVALID_ARGUMENT;
            }
            if (clock.law != group.law || group.has(clockNumber)) {
                return NOT_POSSIBLE;
            }
            if (group.size() >= MOST_IN_GROUP) {
                return LIMIT_REACHED;
            }
            group.members |= 1 << clockNumber;
            return group.size();
        }

        int leaveGroup(int number, int clockNumber) {
            Group group = groupAt(number);
            if (group == null || clockAt(clockNumber) == null) {
                return INVALID_ARGUMENT;
            }
            if (!group.has(clockNumber)) {
                return NOT_POSSIBLE;
            }
            group.members &= ~(1 << clockNumber);
            return group.size();
        }

        int leastRest(int members) {
            int least = NOT_FOUND;
            for (int i = 0; i < clockCount && i < clocks.length; i++) {
                boolean asked = (members & (1 << i)) != 0;
                if (asked && (least == NOT_FOUND || clocks[i].rest < least)) {
                    least = clocks[i].rest;
                }
            }
            return least;
        }

        /** The sum of what Clock.tell answers, over a set of clocks. */
        int sumOver(int set, int what) {
            int sum = 0;
            for (int i = 0; i < clockCount && i < clocks.length; i++) {
                if ((set & (1 << i)) != 0) {
                    sum += clocks[i].tell(what);
                }
            }
            return sum;
        }

        int clockInPlace(int place) {
            for (int i = 0; i < clockCount && i < clocks.length; i++) {
                if (clocksAhead(i, clocks[i].rest) == place) {
                    return i;
                }
            }
            return NOT_FOUND;
        }

        private int clocksAhead(int number, int rest) {
            int ahead = 0;
            for (int i = 0; i < clockCount && i < clocks.length; i++) {
                int other = clocks[i].rest;
                if (other < rest || other == rest && i < number) {
                    ahead++;
                }
            }
            return ahead;
        }

        /** What the passengers of all clocks would have waited by the law alone. */
        double waitDueToAll() {
            double due = 0.0;
            for (int i = 0; i < clockCount && i < clocks.length; i++) {
                due = due + (double) clocks[i].passengers * clocks[i].round.meanOf(2);
            }
            return due;
        }

        int aboutToTell() {
            int set = 0;
            for (int i = 0; i < clockCount && i < clocks.length; i++) {
                if (clocks[i].rest == 1) {
                    set |= 1 << i;
                }
            }
            return set;
        }

        int greatestAge() {
            int greatest = NOT_FOUND;
            for (int i = 0; i < clockCount && i < clocks.length; i++) {
                greatest = Math.max(greatest, clocks[i].age());
            }
            return greatest;
        }
    }

    /** The halls of all states are made once and written over, the slot behind the kept ones too. */
    private static final class History {
        private final Hall[] slots = new Hall[MOST_STATES + 1];
        private int kept;

        History() {
            for (int i = 0; i < slots.length; i++) {
                slots[i] = new Hall();
            }
        }

        /** Copies a state that is kept only if the change comes about. */
        void note(Hall hall) {
            if (kept >= 0 && kept < slots.length) {
                slots[kept].copyFrom(hall);
            }
        }

        void keep() {
            kept++;
            if (kept <= MOST_STATES) {
                return;
            }
            kept = MOST_STATES;
            Hall oldest = slots[0];
            for (int i = 1; i < slots.length; i++) {
                slots[i - 1] = slots[i];
            }
            slots[MOST_STATES] = oldest;
        }

        boolean restore(Hall hall) {
            if (kept <= 0 || kept > slots.length) {
                return false;
            }
            kept--;
            hall.copyFrom(slots[kept]);
            return true;
        }
    }

    private static final class Text {
        private final char[] signs = new char[MOST_SIGNS];
        private int length;

        boolean append(char sign) {
            if (length < 0 || length >= signs.length) {
                return false;
            }
            signs[length] = sign;
            length++;
            return true;
        }

        /** A sign that no order has, where the text has none. */
        char signAt(int at) {
            return at >= 0 && at < length && at < signs.length ? signs[at] : (char) 0;
        }
    }

    /** Reads the text's orders and does them in a trial, up to the first one that is not possible. */
    private static final class Orders {
        private final Text text;
        private final int[] numbers = new int[ORDER_NUMBERS];
        private int start;
        private int at;
        private int many;
        private int reason;
        private int cause;

        Orders(Text text) {
            this.text = text;
        }

        /** Leaves in the trial what the hall would be, if there is no fault. */
        void tryOut(Hall hall, Hall trial) {
            trial.copyFrom(hall);
            at = 0;
            many = 0;
            reason = NO_FAULT;
            for (int i = 0; i < MOST_SIGNS && at < text.length; i++) {
                start = at;
                if (!readOrder()) {
                    setFault(WRONG_FORM, at - start);
                    return;
                }
                int answer = obey(trial);
                if (answer < 0) {
                    setFault(REFUSED, answer);
                    return;
                }
                many++;
            }
        }

        private void setFault(int newReason, int newCause) {
            reason = newReason;
            cause = newCause;
        }

        /** If the order is not of its form, the reading stands where it breaks off. */
        private boolean readOrder() {
            int wanted = numbersBehind(text.signAt(start));
            if (wanted == 0) {
                return false;
            }
            at++;
            for (int i = 0; i < wanted; i++) {
                char end = i + 1 < wanted ? ',' : ';';
                if (!readNumber(i) || text.signAt(at) != end) {
                    return false;
                }
                at++;
            }
            return true;
        }

        private static int numbersBehind(char letter) {
            switch (letter) {
                case 'c':
                    return ORDER_NUMBERS;
                case 'j':
                    return 2;
                case 't':
                case 'p':
                case 'w':
                    return 1;
                default:
                    return 0;
            }
        }

        private boolean readNumber(int index) {
            int value = 0;
            int digits = 0;
            while (digits < MOST_DIGITS && isDigit(text.signAt(at))) {
                value = value * 10 + (text.signAt(at) - '0');
                at++;
                digits++;
            }
            if (digits == 0 || index < 0 || index >= numbers.length) {
                return false;
            }
            numbers[index] = value;
            return true;
        }

        private static boolean isDigit(char sign) {
            return sign >= '0' && sign <= '9';
        }

        private int obey(Hall hall) {
            switch (text.signAt(start)) {
                case 'c':
                    return hall.addClock(numbers[0], numbers[1], numbers[2], numbers[3], numbers[4]);
                case 't':
                    return hall.endTicks(numbers[0]);
                case 'p':
                    return hall.addPassenger(numbers[0]);
                case 'w':
                    return hall.windClock(numbers[0]);
                default:
                    return hall.joinGroup(numbers[0], numbers[1]);
            }
        }
    }
}
