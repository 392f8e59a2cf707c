import java.util.ArrayList;
import java.util.List;
import java.util.regex.Matcher;
import java.util.regex.Pattern;

/**
 * Long runs of mixed calls, each answer held against a second, slower program of the same document: it keeps
 * every state as a copy, counts gaps by their lengths, and reads orders by a pattern.
 */
public final class ModelTest {
    private static final int RUNS = 1500;
    private static final int CALLS = 512;

    public static void main(String[] args) {
        for (int run = 1; run <= RUNS; run++) {
            new Run(run).go();
        }
        Check.end();
    }

    private static final class Run {
        private final int number;
        private long seed;
        private final RenewalClocks x = new RenewalClocks();
        private final Model model = new Model();
        private int calls = 0;

        Run(int number) {
            this.number = number;
            this.seed = 7919L * number;
        }

        int pick(int among) {
            seed = seed * 6364136223846793005L + 1442695040888963407L;
            return (int) ((seed >>> 33) % among);
        }

        /** Mostly of the range, now and then outside it. */
        int near(int least, int most) {
            int which = pick(40);
            if (which == 0) {
                return least - 1;
            }
            if (which == 1) {
                return most + 1;
            }
            return least + pick(most - least + 1);
        }

        void due(String call, long got, long want) {
            calls++;
            Check.due("run " + number + ", call " + calls + ": " + call, got, want);
        }

        void go() {
            while (calls < CALLS - 80) {
                int kind = pick(100);
                if (kind < 38) {
                    change(pick(8));
                } else if (kind < 90) {
                    ask(pick(9));
                } else if (kind < 95) {
                    due("undo()", x.undo(), model.undo());
                } else {
                    text();
                }
            }
        }

        void change(int which) {
            if (which == 0) {
                int[] n = law();
                due("clock(" + n[0] + ", " + n[1] + ", " + n[2] + ", " + n[3] + ", " + n[4] + ")",
                    x.clock(n[0], n[1], n[2], n[3], n[4]), model.change('c', n));
            } else if (which == 1) {
                int clock = near(0, 5);
                due("wind(" + clock + ")", x.wind(clock), model.change('w', clock));
            } else if (which == 2 || which == 3) {
                int ticks = pick(4) == 0 ? near(1, 200) : near(1, 12);
                due("tick(" + ticks + ")", x.tick(ticks), model.change('t', ticks));
            } else if (which == 4) {
                int clock = near(0, 5);
                due("passenger(" + clock + ")", x.passenger(clock), model.change('p', clock));
            } else if (which == 5) {
                int law = near(0, 2);
                due("group(" + law + ")", x.group(law), model.change('g', law));
            } else {
                int group = near(0, 3);
                int clock = near(0, 5);
                if (which == 6 || pick(2) == 0) {
                    due("join(" + group + ", " + clock + ")", x.join(group, clock), model.change('j', group, clock));
                } else {
                    due("leave(" + group + ", " + clock + ")", x.leave(group, clock), model.change('l', group, clock));
                }
            }
        }

        int[] law() {
            int law = number % 4 == 0 ? number % 3 : near(0, 2);
            int most = pick(3) == 0 ? 50 : 6;
            int[] n = {law, near(1, most), near(1, most), near(1, most), near(1, most)};
            int gaps = 1 + pick(4);
            for (int i = gaps + 1; i <= 4; i++) {
                n[i] = 0;
            }
            if (law == 2 && pick(15) > 0) {
                n[2] = near(1, most);
                n[3] = near(1, most);
                n[4] = 0;
            }
            return n;
        }

        void ask(int which) {
            int clock = near(0, 5);
            int group = near(0, 3);
            if (which == 0) {
                int what = near(0, 13);
                due("clockOf(" + clock + ", " + what + ")", x.clockOf(clock, what), model.now.clockOf(clock, what));
            } else if (which == 1) {
                int what = near(0, 5);
                due("mean(" + clock + ", " + what + ")", x.mean(clock, what), model.now.mean(clock, what));
            } else if (which == 2) {
                int what = near(0, 5);
                due("groupOf(" + group + ", " + what + ")", x.groupOf(group, what), model.now.groupOf(group, what));
            } else if (which == 3) {
                int place = near(0, 6);
                due("next(" + place + ")", x.next(place), model.now.next(place));
            } else if (which == 4) {
                int ticks = near(1, 200);
                int what = near(0, 3);
                due("would(" + clock + ", " + ticks + ", " + what + ")", x.would(clock, ticks, what),
                    model.now.would(clock, ticks, what));
            } else if (which == 5) {
                due("meets(" + group + ")", x.meets(group), model.now.meets(group));
            } else if (which == 6) {
                due("longer()", x.longer(), model.now.longer());
            } else {
                int what = near(0, 10);
                due("count(" + what + ")", x.count(what), model.count(what));
            }
        }

        void text() {
            if (pick(3) > 0) {
                due("clearText()", x.clearText(), model.clearText());
            }
            int orders = pick(9);
            for (int i = 0; i < orders && model.text.length() < 61; i++) {
                typeOrder(order());
            }
            int what = near(0, 2);
            due("fault(" + what + ")", x.fault(what), model.fault(what));
            due("play()", x.play(), model.play());
        }

        String order() {
            int which = pick(6);
            if (which == 0) {
                int[] n = law();
                return "c" + n[0] + "," + n[1] + "," + n[2] + "," + n[3] + "," + n[4] + ";";
            }
            if (which == 1) {
                return "j" + near(0, 1) + "," + near(0, 3) + ";";
            }
            if (which == 2 || which == 3) {
                return "t" + near(1, pick(3) == 0 ? 200 : 9) + ";";
            }
            String zeros = pick(4) == 0 ? "00" : "";
            return (which == 4 ? "p" : "w") + zeros + near(0, 2) + ";";
        }

        void typeOrder(String order) {
            for (int i = 0; i < order.length() && calls < CALLS - 3; i++) {
                int character = order.charAt(i);
                int slip = pick(150);
                if (slip == 0) {
                    continue;
                }
                if (slip == 1) {
                    character = "ctpwj0,;x 9".charAt(pick(11));
                }
                if (slip == 2) {
                    character = near(32, 126);
                }
                due("type(" + character + ")", x.type(character), model.type(character));
            }
        }
    }

    private static final class Model {
        private static final Pattern ORDER =
            Pattern.compile("c\\d{1,3}(,\\d{1,3}){4};|[tpw]\\d{1,3};|j\\d{1,3},\\d{1,3};");

        private State now = new State();
        private final List<State> history = new ArrayList<>();
        private String text = "";
        private int[] fault;
        private int played;

        int change(char kind, int... n) {
            State before = now.copy();
            int answer = now.call(kind, n);
            if (answer >= 0) {
                record(before);
            }
            return answer;
        }

        void record(State before) {
            history.add(before);
            if (history.size() == 5) {
                history.remove(0);
            }
        }

        int undo() {
            if (history.isEmpty()) {
                return Check.NOT_POSSIBLE;
            }
            now = history.remove(history.size() - 1);
            return history.size();
        }

        int count(int what) {
            return what == 9 ? history.size() : what == 10 ? text.length() : now.count(what);
        }

        int type(int character) {
            if (character < 32 || character > 126) {
                return Check.INVALID;
            }
            if (text.length() == 60) {
                return Check.LIMIT;
            }
            text += (char) character;
            return text.length();
        }

        int clearText() {
            int had = text.length();
            text = "";
            return had;
        }

        State tryOut() {
            State tried = now.copy();
            fault = null;
            played = 0;
            int start = 0;
            while (start < text.length()) {
                String left = text.substring(start);
                Matcher matcher = ORDER.matcher(left);
                if (!matcher.lookingAt()) {
                    fault = new int[] {start, 1, breakOff(left)};
                    return null;
                }
                String order = matcher.group();
                String[] words = order.substring(1, order.length() - 1).split(",");
                int[] n = new int[words.length];
                for (int i = 0; i < n.length; i++) {
                    n[i] = Integer.parseInt(words[i]);
                }
                int answer = tried.call(order.charAt(0), n);
                if (answer < 0) {
                    fault = new int[] {start, 2, answer};
                    return null;
                }
                played++;
                start += order.length();
            }
            return tried;
        }

        /** The length of the longest beginning with which some order begins. */
        static int breakOff(String left) {
            int length = 0;
            while (length < left.length()) {
                Matcher matcher = ORDER.matcher(left.substring(0, length + 1));
                if (!matcher.matches() && !matcher.hitEnd()) {
                    return length;
                }
                length++;
            }
            return length;
        }

        int fault(int what) {
            if (what < 0 || what > 2) {
                return Check.INVALID;
            }
            tryOut();
            return fault == null ? Check.NOT_FOUND : fault[what];
        }

        int play() {
            State tried = tryOut();
            if (tried == null) {
                return Check.NOT_POSSIBLE;
            }
            record(now);
            now = tried;
            return played;
        }
    }

    private static final class Gang {
        private int law;
        private List<Integer> clocks = new ArrayList<>();
        private int told;
        private int met;

        Gang copy() {
            Gang copy = new Gang();
            copy.law = law;
            copy.clocks = new ArrayList<>(clocks);
            copy.told = told;
            copy.met = met;
            return copy;
        }
    }

    private static final class Watch {
        private int law;
        private int[] numbers;
        private int[] round;
        private int begun;
        private int gap;
        private int age;
        private int[] told = new int[51];
        private int passengers;
        private int waited;
        private int wound;

        Watch copy() {
            Watch copy = new Watch();
            copy.law = law;
            copy.numbers = numbers;
            copy.round = round;
            copy.begun = begun;
            copy.gap = gap;
            copy.age = age;
            copy.told = told.clone();
            copy.passengers = passengers;
            copy.waited = waited;
            copy.wound = wound;
            return copy;
        }

        static int many(int[] histogram) {
            int many = 0;
            for (int times : histogram) {
                many += times;
            }
            return many;
        }

        static int sum(int[] histogram) {
            int sum = 0;
            for (int length = 1; length <= 50; length++) {
                sum += length * histogram[length];
            }
            return sum;
        }

        static double mean(int[] histogram, int what) {
            long top = 0;
            for (int length = 1; length <= 50; length++) {
                long each = what == 0 ? length : what == 1 ? length * length : length * (length + 1) / 2;
                top += each * histogram[length];
            }
            return (double) top / (double) (what == 0 ? many(histogram) : sum(histogram));
        }

        int[] lawHistogram() {
            int[] histogram = new int[51];
            for (int length : round) {
                histogram[length]++;
            }
            return histogram;
        }
    }

    private static final class State {
        private final List<Watch> clocks = new ArrayList<>();
        private final List<Gang> groups = new ArrayList<>();
        private int tick = 0;
        private int x = 1;

        State copy() {
            State copy = new State();
            for (Watch clock : clocks) {
                copy.clocks.add(clock.copy());
            }
            for (Gang group : groups) {
                copy.groups.add(group.copy());
            }
            copy.tick = tick;
            copy.x = x;
            return copy;
        }

        boolean noClock(int clock) {
            return clock < 0 || clock >= clocks.size();
        }

        boolean noGroup(int group) {
            return group < 0 || group >= groups.size();
        }

        int call(char kind, int... n) {
            switch (kind) {
                case 'c':
                    return clock(n);
                case 'w':
                    return wind(n[0]);
                case 't':
                    return ticks(n[0]);
                case 'p':
                    return passenger(n[0]);
                case 'g':
                    return group(n[0]);
                case 'j':
                    return join(n[0], n[1]);
                default:
                    return leave(n[0], n[1]);
            }
        }

        int clock(int[] n) {
            boolean allowed = n[0] >= 0 && n[0] <= 2 && n[1] >= 1;
            for (int i = 1; i <= 4; i++) {
                allowed = allowed && n[i] >= 0 && n[i] <= 50;
            }
            String shape = "";
            for (int i = 1; i <= 4; i++) {
                shape += n[i] == 0 ? "0" : "1";
            }
            allowed = allowed && (n[0] == 2 ? shape.equals("1110") : shape.matches("1+0*"));
            if (!allowed) {
                return Check.INVALID;
            }
            if (clocks.size() == 6) {
                return Check.LIMIT;
            }
            Watch clock = new Watch();
            clock.law = n[0];
            clock.numbers = new int[] {n[1], n[2], n[3], n[4]};
            clock.round = new int[n[0] == 2 ? n[2] + 1 : shape.replace("0", "").length()];
            for (int i = 0; i < clock.round.length; i++) {
                clock.round[i] = n[0] < 2 ? n[1 + i] : i < n[2] ? n[1] : n[3];
            }
            begin(clock);
            clocks.add(clock);
            return clocks.size() - 1;
        }

        void begin(Watch clock) {
            int place = clock.begun % clock.round.length;
            if (clock.law == 1) {
                x = (x * 421 + 1663) % 10000;
                place = x % clock.round.length;
            }
            clock.gap = clock.round[place];
            clock.age = 0;
            clock.begun++;
        }

        int wind(int clock) {
            if (noClock(clock)) {
                return Check.INVALID;
            }
            begin(clocks.get(clock));
            clocks.get(clock).wound++;
            return clocks.get(clock).gap;
        }

        int ticks(int ticks) {
            if (ticks < 1 || ticks > 200) {
                return Check.INVALID;
            }
            if (tick + ticks > 99999) {
                return Check.LIMIT;
            }
            int told = 0;
            for (int i = 0; i < ticks; i++) {
                told += oneTick().size();
            }
            return told;
        }

        List<Integer> oneTick() {
            tick++;
            List<Integer> told = new ArrayList<>();
            for (int i = 0; i < clocks.size(); i++) {
                Watch clock = clocks.get(i);
                clock.age++;
                if (clock.age == clock.gap) {
                    told.add(i);
                    clock.told[clock.gap]++;
                    begin(clock);
                }
            }
            for (Gang group : groups) {
                int ours = 0;
                for (int clock : told) {
                    ours += group.clocks.contains(clock) ? 1 : 0;
                }
                group.told += ours;
                group.met += ours > 1 ? 1 : 0;
            }
            return told;
        }

        int passenger(int clock) {
            if (noClock(clock)) {
                return Check.INVALID;
            }
            Watch watch = clocks.get(clock);
            watch.passengers++;
            watch.waited += watch.gap - watch.age;
            return watch.gap - watch.age;
        }

        int group(int law) {
            if (law < 0 || law > 2) {
                return Check.INVALID;
            }
            if (groups.size() == 4) {
                return Check.LIMIT;
            }
            Gang group = new Gang();
            group.law = law;
            groups.add(group);
            return groups.size() - 1;
        }

        int join(int group, int clock) {
            if (noGroup(group) || noClock(clock)) {
                return Check.INVALID;
            }
            Gang gang = groups.get(group);
            if (gang.law != clocks.get(clock).law || gang.clocks.contains(clock)) {
                return Check.NOT_POSSIBLE;
            }
            if (gang.clocks.size() == 4) {
                return Check.LIMIT;
            }
            gang.clocks.add(clock);
            return gang.clocks.size();
        }

        int leave(int group, int clock) {
            if (noGroup(group) || noClock(clock)) {
                return Check.INVALID;
            }
            if (!groups.get(group).clocks.remove((Integer) clock)) {
                return Check.NOT_POSSIBLE;
            }
            return groups.get(group).clocks.size();
        }

        int clockOf(int clock, int what) {
            if (noClock(clock) || what < 0 || what > 13) {
                return Check.INVALID;
            }
            Watch watch = clocks.get(clock);
            int longest = Check.NOT_FOUND;
            for (int length = 1; length <= 50; length++) {
                longest = watch.told[length] > 0 ? length : longest;
            }
            int[] n = watch.numbers;
            int[] answers = {watch.law, n[0], n[1], n[2], n[3], watch.gap, watch.age, watch.gap - watch.age,
                Watch.many(watch.told), Watch.sum(watch.told), longest, watch.passengers, watch.waited, watch.wound};
            return answers[what];
        }

        long mean(int clock, int what) {
            if (noClock(clock) || what < 0 || what > 5) {
                return Check.INVALID;
            }
            int[] told = clocks.get(clock).told;
            if (what < 3 && Watch.many(told) == 0) {
                return Check.NOT_FOUND;
            }
            return Double.doubleToRawLongBits(Watch.mean(what < 3 ? told : clocks.get(clock).lawHistogram(), what % 3));
        }

        int groupOf(int group, int what) {
            if (noGroup(group) || what < 0 || what > 5) {
                return Check.INVALID;
            }
            Gang gang = groups.get(group);
            int set = 0;
            int least = 1000;
            int sum = 0;
            for (int clock : gang.clocks) {
                set += 1 << clock;
                least = Math.min(least, clocks.get(clock).gap - clocks.get(clock).age);
                sum += Watch.sum(clocks.get(clock).told);
            }
            int[] answers = {gang.law, set, gang.clocks.isEmpty() ? Check.NOT_FOUND : least, gang.told, gang.met, sum};
            return answers[what];
        }

        int next(int place) {
            if (place < 0) {
                return Check.INVALID;
            }
            List<Integer> order = new ArrayList<>();
            for (int rest = 1; rest <= 50; rest++) {
                for (int i = 0; i < clocks.size(); i++) {
                    if (clocks.get(i).gap - clocks.get(i).age == rest) {
                        order.add(i);
                    }
                }
            }
            return place < order.size() ? order.get(place) : Check.NOT_FOUND;
        }

        int would(int clock, int ticks, int what) {
            if (noClock(clock) || ticks < 1 || ticks > 200 || what < 0 || what > 3) {
                return Check.INVALID;
            }
            State later = copy();
            int told = 0;
            for (int i = 0; i < ticks; i++) {
                told += later.oneTick().contains(clock) ? 1 : 0;
            }
            Watch watch = later.clocks.get(clock);
            return new int[] {watch.age, watch.gap - watch.age, told, watch.gap}[what];
        }

        int meets(int group) {
            if (noGroup(group)) {
                return Check.INVALID;
            }
            State later = copy();
            for (int i = 1; i <= 200; i++) {
                List<Integer> told = later.oneTick();
                told.retainAll(groups.get(group).clocks);
                if (told.size() >= 2) {
                    return i;
                }
            }
            return Check.NOT_FOUND;
        }

        long longer() {
            int waited = 0;
            double law = 0.0;
            for (Watch clock : clocks) {
                waited += clock.waited;
                law += (double) clock.passengers * Watch.mean(clock.lawHistogram(), 2);
            }
            return Double.doubleToRawLongBits((double) waited - law);
        }

        int count(int what) {
            if (what < 0 || what > 8) {
                return Check.INVALID;
            }
            int[] answers = {clocks.size(), groups.size(), tick, x, 0, 0, 0, 0, Check.NOT_FOUND};
            for (int i = 0; i < clocks.size(); i++) {
                Watch clock = clocks.get(i);
                answers[4] += Watch.many(clock.told);
                answers[5] += clock.passengers;
                answers[6] += clock.waited;
                answers[7] += clock.gap - clock.age == 1 ? 1 << i : 0;
                answers[8] = Math.max(answers[8], clock.age);
            }
            return answers[what];
        }
    }
}
