/** Promises 18 to 21: type, clearText, fault, play. */
public final class TextsTest {
    public static void main(String[] args) {
        type();
        clearText();
        noFault();
        wrongForms();
        refusedOrders();
        faultIsOfTheState();
        faultErrors();
        play();
        playWithAFault();
        playIsAsTheCalls();
        Check.end();
    }

    private static void type() {
        RenewalClocks x = new RenewalClocks();
        int[] wrong = {31, 127, 0, -1, Integer.MAX_VALUE, Integer.MIN_VALUE};
        for (int character : wrong) {
            Check.due("type(" + character + ")", x.type(character), Check.INVALID);
        }
        Check.due("type(32)", x.type(32), 1);
        Check.due("type(126)", x.type(126), 2);
        for (int i = 3; i <= 60; i++) {
            Check.due("type(" + (30 + i) + ")", x.type(30 + i), i);
        }
        Check.due("a 61st character", x.type(32), Check.LIMIT);
        Check.due("a wrong 61st character", x.type(31), Check.INVALID);
        Check.due("count(10)", x.count(10), 60);
        Check.due("count(9)", x.count(9), 0);
    }

    private static void clearText() {
        RenewalClocks x = new RenewalClocks();
        Check.due("clearText()", x.clearText(), 0);
        Check.typed(x, "w0;");
        Check.due("clearText()", x.clearText(), 3);
        Check.due("count(10)", x.count(10), 0);
        Check.due("fault(0)", x.fault(0), Check.NOT_FOUND);
        Check.due("type('t')", x.type('t'), 1);
        Check.due("count(9)", x.count(9), 0);
    }

    private static void dueNoFault(RenewalClocks x, String text) {
        Check.typed(x, text);
        for (int what = 0; what <= 2; what++) {
            Check.due("fault(" + what + ") of " + text, x.fault(what), Check.NOT_FOUND);
        }
    }

    private static void noFault() {
        RenewalClocks x = new RenewalClocks();
        dueNoFault(x, "");
        dueNoFault(x, "t1;");
        dueNoFault(x, "t001;t200;t020;");
        dueNoFault(x, "c0,1,0,0,0;");
        dueNoFault(x, "c001,050,50,00,000;w000;p0;t01;");
        x.group(2);
        dueNoFault(x, "c2,3,4,5,0;j0,0;w0;p0;t9;");
        dueNoFault(x, "c2,3,4,5,0;c2,3,4,5,0;j0,1;j00,000;");
    }

    private static void wrongForms() {
        RenewalClocks x = new RenewalClocks();
        x.clock(0, 5, 0, 0, 0);
        Check.dueFault(x, ";", 0, 1, 0);
        Check.dueFault(x, " t1;", 0, 1, 0);
        Check.dueFault(x, "T1;", 0, 1, 0);
        Check.dueFault(x, "x", 0, 1, 0);
        Check.dueFault(x, "5;", 0, 1, 0);
        Check.dueFault(x, "t", 0, 1, 1);
        Check.dueFault(x, "t;", 0, 1, 1);
        Check.dueFault(x, "t,", 0, 1, 1);
        Check.dueFault(x, "t1", 0, 1, 2);
        Check.dueFault(x, "t12", 0, 1, 3);
        Check.dueFault(x, "t123", 0, 1, 4);
        Check.dueFault(x, "t1234;", 0, 1, 4);
        Check.dueFault(x, "t0001;", 0, 1, 4);
        Check.dueFault(x, "t1,", 0, 1, 2);
        Check.dueFault(x, "t-1;", 0, 1, 1);
        Check.dueFault(x, "t1 ;", 0, 1, 2);
        Check.dueFault(x, "t1/;", 0, 1, 2);
        Check.dueFault(x, "t1:", 0, 1, 2);
        Check.dueFault(x, "tt", 0, 1, 1);
        Check.dueFault(x, "p", 0, 1, 1);
        Check.dueFault(x, "p0,0;", 0, 1, 2);
        Check.dueFault(x, "w0", 0, 1, 2);
        Check.dueFault(x, "w0w0;", 0, 1, 2);
        Check.dueFault(x, "j", 0, 1, 1);
        Check.dueFault(x, "j0", 0, 1, 2);
        Check.dueFault(x, "j0;", 0, 1, 2);
        Check.dueFault(x, "j0,", 0, 1, 3);
        Check.dueFault(x, "j0,;", 0, 1, 3);
        Check.dueFault(x, "j000,000,", 0, 1, 8);
        Check.dueFault(x, "j0000", 0, 1, 4);
        Check.dueFault(x, "c", 0, 1, 1);
        Check.dueFault(x, "c0,1,0,0;", 0, 1, 8);
        Check.dueFault(x, "c0,1,0,0,", 0, 1, 9);
        Check.dueFault(x, "c0,1,0,0,0", 0, 1, 10);
        Check.dueFault(x, "c0,1,0,0,0,", 0, 1, 10);
        Check.dueFault(x, "c,1", 0, 1, 1);
        Check.dueFault(x, "l0,0;", 0, 1, 0);
        Check.dueFault(x, "g0;", 0, 1, 0);
        Check.dueFault(x, "t1;p0;;", 6, 1, 0);
        Check.dueFault(x, "t1; p0;", 3, 1, 0);
        Check.dueFault(x, "t1;p0;w0", 6, 1, 2);
        Check.dueFault(x, "t1;p0;c0,1,0", 6, 1, 6);
        Check.dueFault(x, "t1;t1;t1;t1;t1;t1;t1;t1;t1;t1;t1;t1;t1;t1;t1;t1;t1;t1;t1;t12", 57, 1, 3);
    }

    private static void refusedOrders() {
        RenewalClocks x = new RenewalClocks();
        x.clock(0, 5, 0, 0, 0);
        x.clock(1, 5, 0, 0, 0);
        x.group(0);
        Check.dueFault(x, "t0;", 0, 2, Check.INVALID);
        Check.dueFault(x, "t201;", 0, 2, Check.INVALID);
        Check.dueFault(x, "t999;", 0, 2, Check.INVALID);
        Check.dueFault(x, "p2;", 0, 2, Check.INVALID);
        Check.dueFault(x, "w2;", 0, 2, Check.INVALID);
        Check.dueFault(x, "j1,0;", 0, 2, Check.INVALID);
        Check.dueFault(x, "j0,2;", 0, 2, Check.INVALID);
        Check.dueFault(x, "j0,1;", 0, 2, Check.NOT_POSSIBLE);
        Check.dueFault(x, "j0,0;j0,0;", 5, 2, Check.NOT_POSSIBLE);
        Check.dueFault(x, "c3,1,1,1,0;", 0, 2, Check.INVALID);
        Check.dueFault(x, "c0,1,0,1,0;", 0, 2, Check.INVALID);
        Check.dueFault(x, "c0,51,0,0,0;", 0, 2, Check.INVALID);
        Check.dueFault(x, "t5;p0;w2;t;", 6, 2, Check.INVALID);
        Check.dueFault(x, "t5;x;w2;", 3, 1, 0);
        Check.dueFault(x, "c0,1,0,0,0;c0,1,0,0,0;c0,1,0,0,0;c0,1,0,0,0;c0,1,0,0,0;", 44, 2, Check.LIMIT);
        Check.dueFault(x, "c0,1,0,0,0;c0,1,0,0,0;c0,1,0,0,0;j0,2;j0,3;j0,0;j0,4;j0,0;", 53, 2, Check.NOT_POSSIBLE);
        x.clock(0, 5, 0, 0, 0);
        x.clock(0, 5, 0, 0, 0);
        x.clock(0, 5, 0, 0, 0);
        x.clock(0, 5, 0, 0, 0);
        Check.dueFault(x, "j0,2;j0,3;j0,0;j0,4;j0,5;", 20, 2, Check.LIMIT);
    }

    private static void faultIsOfTheState() {
        RenewalClocks x = new RenewalClocks();
        Check.dueFault(x, "w0;", 0, 2, Check.INVALID);
        x.clock(0, 5, 0, 0, 0);
        Check.due("fault(0)", x.fault(0), Check.NOT_FOUND);
        Check.due("fault(1)", x.fault(1), Check.NOT_FOUND);
        x.undo();
        Check.due("fault(0)", x.fault(0), 0);
        Check.due("fault(2)", x.fault(2), Check.INVALID);
        Check.dueFault(x, "c0,5,0,0,0;w0;w1;", 14, 2, Check.INVALID);
        Check.due("no clock came", x.count(0), 0);
        Check.due("no state is kept", x.count(9), 0);
    }

    private static void faultErrors() {
        RenewalClocks x = new RenewalClocks();
        int[] wrong = {-1, 3, Integer.MAX_VALUE, Integer.MIN_VALUE};
        for (int what : wrong) {
            Check.due("fault(" + what + ")", x.fault(what), Check.INVALID);
        }
        Check.due("fault(0) without a text", x.fault(0), Check.NOT_FOUND);
        x.type('x');
        for (int what : wrong) {
            Check.due("fault(" + what + ")", x.fault(what), Check.INVALID);
        }
    }

    private static void play() {
        RenewalClocks x = new RenewalClocks();
        Check.due("play() of no orders", x.play(), 0);
        Check.due("it is a change", x.count(9), 1);
        Check.due("undo()", x.undo(), 0);
        x.group(0);
        Check.typed(x, "c0,3,5,0,0;c0,4,0,0,0;j0,0;j0,1;p0;t8;w0;p0;");
        Check.due("play()", x.play(), 8);
        Check.due("the text stays", x.count(10), 44);
        Check.due("clocks", x.count(0), 2);
        Check.due("the tick", x.count(2), 8);
        Check.due("gaps told", x.count(4), 4);
        Check.due("it met", x.groupOf(0, 4), 1);
        Check.due("passengers", x.clockOf(0, 11), 2);
        Check.due("what they waited", x.clockOf(0, 12), 8);
        Check.due("how often it was wound", x.clockOf(0, 13), 1);
        Check.due("states", x.count(9), 2);
        Check.due("the next j0,0; is not possible", x.play(), Check.NOT_POSSIBLE);
        Check.due("undo() of all orders", x.undo(), 1);
        Check.due("clocks", x.count(0), 0);
        Check.due("groups", x.count(1), 1);
        Check.due("the tick", x.count(2), 0);
        Check.due("the text stays", x.count(10), 44);
        Check.due("play() again", x.play(), 8);
        Check.typed(x, "t1;t1;t1;t1;t1;t1;t1;t1;t1;t1;t1;t1;t1;t1;t1;t1;t1;t1;t1;t1;");
        Check.due("play() of 20 orders", x.play(), 20);
        Check.due("the tick", x.count(2), 28);
        Check.due("states", x.count(9), 3);
    }

    private static void playWithAFault() {
        RenewalClocks x = new RenewalClocks();
        x.clock(1, 5, 9, 0, 0);
        Check.typed(x, "t9;w0;p0;w1;");
        String before = Check.all(x);
        Check.due("play()", x.play(), Check.NOT_POSSIBLE);
        Check.dueText("play() with a fault", Check.all(x), before);
        Check.due("states", x.count(9), 1);
        Check.typed(x, "t9;w0;p0;t");
        before = Check.all(x);
        Check.due("play()", x.play(), Check.NOT_POSSIBLE);
        Check.dueText("play() with a fault", Check.all(x), before);
        Check.due("states", x.count(9), 1);
    }

    private static void playIsAsTheCalls() {
        RenewalClocks played = new RenewalClocks();
        RenewalClocks called = new RenewalClocks();
        played.group(1);
        called.group(1);
        Check.typed(played, "c1,5,9,2,0;t17;c1,3,8,0,0;j0,1;p1;w0;j0,0;t50;p0;");
        Check.typed(called, "c1,5,9,2,0;t17;c1,3,8,0,0;j0,1;p1;w0;j0,0;t50;p0;");
        Check.due("play()", played.play(), 9);
        called.clock(1, 5, 9, 2, 0);
        called.tick(17);
        called.clock(1, 3, 8, 0, 0);
        called.join(0, 1);
        called.passenger(1);
        called.wind(0);
        called.join(0, 0);
        called.tick(50);
        called.passenger(0);
        Check.dueText("play() does as the calls do", Check.all(played), Check.all(called));
        Check.due("it is one change", played.count(9), 2);
    }
}
