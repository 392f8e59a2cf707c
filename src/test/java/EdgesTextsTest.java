/** The edges that "Terms" and the promises 18 to 21 name for texts, sentence by sentence. */
public final class EdgesTextsTest {
    /** An order of each kind, possible in Halls.ofEachLaw, with a number of digits in each number. */
    private static final String[] ORDERS = {
        "c0,1,0,0,0;", "c0,12,3,0,0;", "c000,050,050,050,050;", "c2,01,50,1,000;",
        "t1;", "t20;", "t200;", "p0;", "p02;", "p002;", "w1;", "w01;", "w001;", "j0,0;", "j01,1;", "j2,002;", "j002,002;",
    };

    public static void main(String[] args) {
        characters();
        sixtyCharacters();
        clearText();
        numbersOfDigits();
        noDigits();
        endsTooEarly();
        wrongCharacters();
        separators();
        besideDigits();
        laterOrders();
        noOrders();
        letters();
        firstFaultOfTwo();
        afterThoseAhead();
        causesOfTheCalls();
        ordersAtTheLimits();
        ordersOfFullHall();
        orderOfTheLastTick();
        noFault();
        faultErrors();
        playOfNoOrders();
        playOfTwentyOrders();
        playIsOneChange();
        playLeavesTheText();
        playRefused();
        Check.end();
    }

    private static void characters() {
        Check.sentence("type: character 32 to 126");
        int[] wrong = {31, 127, 0, -1, 128, 32 + 256, 32 + 65536, Integer.MAX_VALUE, Integer.MIN_VALUE};
        for (int character : wrong) {
            Check.refused("type(" + character + ")", Halls::ofEachLaw, x -> x.type(character), Check.INVALID);
            Check.refused("type(" + character + "), where the text is full", Halls::full, x -> x.type(character), Check.INVALID);
        }
        for (int character = 32; character <= 126; character++) {
            Check.due("type(" + character + ")", new RenewalClocks().type(character), 1);
        }
    }

    private static void sixtyCharacters() {
        Check.sentence("There is a text of at most 60 characters, initially empty");
        RenewalClocks x = new RenewalClocks();
        Check.due("count(10)", x.count(10), 0);
        for (int length = 1; length <= 60; length++) {
            Check.due("the character " + length, x.type(length == 1 ? 'x' : ' '), length);
            Check.due("count(10)", x.count(10), length);
        }
        Check.due("a 61st character", x.type(' '), Check.LIMIT);
        Check.due("count(10)", x.count(10), 60);
        Check.due("a character of an emptied text", x.clearText() + x.type('x'), 61);
        Check.refused("a 61st character", Halls::full, h -> h.type('x'), Check.LIMIT);
        x = Halls.full();
        x.type(';');
        Check.due("fault(0) behind a 61st character", x.fault(0), Check.NOT_FOUND);
        Check.due("play() behind a 61st character", x.play(), 20);
        Check.typed(x, Halls.FULL_TEXT.substring(3) + "p06");
        Check.due("a 61st character", x.type(';'), Check.LIMIT);
        Check.due("fault(0): the ; of the last order has no room", x.fault(0), 57);
        Check.due("fault(2)", x.fault(2), 3);
    }

    private static void clearText() {
        Check.sentence("clearText: returns the length it had");
        RenewalClocks x = Halls.full();
        int states = x.count(9);
        Check.due("clearText() of 60 characters", x.clearText(), 60);
        Check.due("clearText() of none", x.clearText(), 0);
        Check.due("count(10)", x.count(10), 0);
        Check.due("count(9)", x.count(9), states);
        Check.due("fault(0)", x.fault(0), Check.NOT_FOUND);
        x.type(';');
        Check.due("clearText() of one", x.clearText(), 1);
        Check.due("clearText() of a new object", new RenewalClocks().clearText(), 0);
        x = Check.typed(new RenewalClocks(), "t123456");
        Check.typed(x, "t1");
        Check.due("what stood behind is gone", x.fault(2), 2);
    }

    private static void noFault(RenewalClocks x, String text) {
        Check.typed(x, text);
        for (int what = 0; what <= 2; what++) {
            Check.due("fault(" + what + ") of " + text, x.fault(what), Check.NOT_FOUND);
        }
    }

    private static void numbersOfDigits() {
        Check.sentence("numbers of 1 to 3 digits, 0 ahead allowed");
        for (String order : ORDERS) {
            noFault(Halls.ofEachLaw(), order);
        }
        RenewalClocks x = Halls.ofEachLaw();
        Check.dueFault(x, "t1234;", 0, 1, 4);
        Check.dueFault(x, "t0001;", 0, 1, 4);
        Check.dueFault(x, "p0000;", 0, 1, 4);
        Check.dueFault(x, "w0000;", 0, 1, 4);
        Check.dueFault(x, "j0000,0;", 0, 1, 4);
        Check.dueFault(x, "j000,0000;", 0, 1, 8);
        Check.dueFault(x, "c0000,1,0,0,0;", 0, 1, 4);
        Check.dueFault(x, "c0,0001,0,0,0;", 0, 1, 6);
        Check.dueFault(x, "c0,1,0000,0,0;", 0, 1, 8);
        Check.dueFault(x, "c0,1,0,0000,0;", 0, 1, 10);
        Check.dueFault(x, "c0,1,0,0,0000;", 0, 1, 12);
    }

    private static void noDigits() {
        Check.sentence("numbers of 1 to 3 digits: none is too few");
        RenewalClocks x = Halls.ofEachLaw();
        Check.dueFault(x, "t;", 0, 1, 1);
        Check.dueFault(x, "p;", 0, 1, 1);
        Check.dueFault(x, "w;", 0, 1, 1);
        Check.dueFault(x, "j;", 0, 1, 1);
        Check.dueFault(x, "j,0;", 0, 1, 1);
        Check.dueFault(x, "j0,;", 0, 1, 3);
        Check.dueFault(x, "c,1,0,0,0;", 0, 1, 1);
        Check.dueFault(x, "c0,,0,0,0;", 0, 1, 3);
        Check.dueFault(x, "c0,1,,0,0;", 0, 1, 5);
        Check.dueFault(x, "c0,1,0,,0;", 0, 1, 7);
        Check.dueFault(x, "c0,1,0,0,;", 0, 1, 9);
    }

    private static void endsTooEarly() {
        Check.sentence("of one that the text ends too early it is its length");
        for (String order : ORDERS) {
            for (int length = 1; length < order.length(); length++) {
                RenewalClocks x = Halls.ofEachLaw();
                Check.dueFault(x, order.substring(0, length), 0, 1, length);
                Check.dueFault(x, "t9;p1;" + order.substring(0, length), 6, 1, length);
            }
        }
    }

    private static void wrongCharacters() {
        Check.sentence("at which character of the order, from 0, it breaks off");
        String wrong = "xT- ~";
        for (String order : ORDERS) {
            for (int at = 0; at < order.length(); at++) {
                char sign = wrong.charAt(at % wrong.length());
                RenewalClocks x = Halls.ofEachLaw();
                Check.dueFault(x, order.substring(0, at) + sign + order.substring(at + 1), 0, 1, at);
                Check.dueFault(x, "w1;" + order.substring(0, at) + sign + order.substring(at), 3, 1, at);
            }
        }
    }

    private static void separators() {
        Check.sentence("\",\" between the numbers, \";\" behind each order");
        for (String order : ORDERS) {
            for (int at = 0; at < order.length(); at++) {
                char sign = order.charAt(at);
                if (sign == ',' || sign == ';') {
                    char other = sign == ',' ? ';' : ',';
                    Check.dueFault(Halls.ofEachLaw(), order.substring(0, at) + other + order.substring(at + 1), 0, 1, at);
                }
            }
        }
        RenewalClocks x = Halls.ofEachLaw();
        Check.dueFault(x, "j0,0,0;", 0, 1, 4);
        Check.dueFault(x, "c0,1,0,0,0,0;", 0, 1, 10);
        Check.dueFault(x, "t1;;", 3, 1, 0);
        Check.dueFault(x, "t1,;", 0, 1, 2);
        Check.dueFault(x, ";t1;", 0, 1, 0);
    }

    private static void besideDigits() {
        Check.sentence("digits: those beside 0 and 9 are none");
        RenewalClocks x = Halls.ofEachLaw();
        Check.dueFault(x, "t/;", 0, 1, 1);
        Check.dueFault(x, "t:;", 0, 1, 1);
        Check.dueFault(x, "t1/;", 0, 1, 2);
        Check.dueFault(x, "t1:;", 0, 1, 2);
        Check.dueFault(x, "j0,/;", 0, 1, 3);
        noFault(x, "t9;t19;t190;t90;");
        Check.due("play()", x.play(), 4);
        Check.due("the ticks", x.count(2), 9 + 19 + 190 + 90);
        noFault(x, "t123;t045;t006;t78;");
        Check.due("play()", x.play(), 4);
        Check.due("the ticks", x.count(2), 308 + 123 + 45 + 6 + 78);
    }

    private static void laterOrders() {
        Check.sentence("the position, from 0, of the first character of the first order that is not possible");
        String ahead = "";
        for (int i = 0; i < 19; i++) {
            ahead += "p0;";
            Check.dueFault(Halls.ofEachLaw(), ahead + "p9;", 3 * i + 3, 2, Check.INVALID);
            Check.dueFault(Halls.ofEachLaw(), ahead + "x", 3 * i + 3, 1, 0);
            Check.dueFault(Halls.ofEachLaw(), ahead + "p9", 3 * i + 3, 1, 2);
        }
        Check.dueFault(Halls.ofEachLaw(), Halls.FULL_TEXT.substring(1) + "x", 0, 1, 0);
        Check.dueFault(Halls.ofEachLaw(), ahead + "p0x", 57, 1, 2);
        Check.dueFault(Halls.ofEachLaw(), ahead + " p0", 57, 1, 0);
    }

    private static void noOrders() {
        Check.sentence("fault: NOT_FOUND if the text has no fault (also if it is empty)");
        for (int what = 0; what <= 2; what++) {
            Check.due("fault(" + what + ") of a new object", new RenewalClocks().fault(what), Check.NOT_FOUND);
            int asked = what;
            Check.refused("fault(" + what + ")", Halls::full, x -> x.fault(asked), Check.NOT_FOUND);
        }
        RenewalClocks x = Check.typed(new RenewalClocks(), "x");
        Check.due("fault(0) of a fault", x.fault(0), 0);
        x.clearText();
        Check.due("fault(0) of the emptied text", x.fault(0), Check.NOT_FOUND);
    }

    private static void letters() {
        Check.sentence("orders: \"c\", \"t\", \"p\", \"w\" or \"j\"");
        for (int letter = 32; letter <= 126; letter++) {
            boolean ofOneNumber = letter == 't' || letter == 'p' || letter == 'w';
            boolean ofMore = letter == 'c' || letter == 'j';
            RenewalClocks x = Halls.ofEachLaw();
            if (ofOneNumber) {
                noFault(x, (char) letter + "1;");
            } else {
                Check.dueFault(x, (char) letter + "1;", 0, 1, ofMore ? 2 : 0);
            }
        }
    }

    private static void firstFaultOfTwo() {
        Check.sentence("the first order that is not possible; its reason is 1 if it is not of this form, and otherwise 2");
        Check.dueFault(Halls.ofEachLaw(), "p3;x", 0, 2, Check.INVALID);
        Check.dueFault(Halls.ofEachLaw(), "x;p3;", 0, 1, 0);
        Check.dueFault(Halls.ofEachLaw(), "p0;p3;p", 3, 2, Check.INVALID);
        Check.dueFault(Halls.ofEachLaw(), "p0;p;p3;", 3, 1, 1);
        Check.dueFault(Halls.ofEachLaw(), "p3", 0, 1, 2);
        Check.dueFault(Halls.ofEachLaw(), "t201;t0;j0,1;", 0, 2, Check.INVALID);
        Check.dueFault(Halls.ofEachLaw(), "j0,1;t201;", 0, 2, Check.NOT_POSSIBLE);
        Check.dueFault(Halls.ofEachLaw(), "t201", 0, 1, 4);
    }

    private static void afterThoseAhead() {
        Check.sentence("otherwise 2, when those ahead of it are done");
        noFault(Halls.ofEachLaw(), "c0,1,0,0,0;p3;w3;j0,3;");
        Check.dueFault(Halls.ofEachLaw(), "p3;c0,1,0,0,0;", 0, 2, Check.INVALID);
        Check.dueFault(Halls.ofEachLaw(), "c0,1,0,0,0;p3;p4;", 14, 2, Check.INVALID);
        Check.dueFault(Halls.ofEachLaw(), "j0,0;j0,0;", 5, 2, Check.NOT_POSSIBLE);
        Check.dueFault(Halls.ofEachLaw(), "j0,0;j1,1;j2,2;j1,1;", 15, 2, Check.NOT_POSSIBLE);
        RenewalClocks x = Check.typed(Halls.ofEachLaw(), "p3;");
        Check.due("fault(0) of what the state refuses", x.fault(0), 0);
        x.clock(0, 1, 0, 0, 0);
        Check.due("fault(0) of what it allows", x.fault(0), Check.NOT_FOUND);
        x.undo();
        Check.due("fault(0) of what it refuses again", x.fault(0), 0);
        Check.due("fault(1)", x.fault(1), 2);
    }

    private static void causesOfTheCalls() {
        Check.sentence("with the reason 2 the error code that the call returns for it");
        String[] invalid = {
            "c3,1,1,1,1;", "c0,0,0,0,0;", "c0,51,0,0,0;", "c0,1,51,0,0;", "c0,1,0,1,0;", "c1,1,1,0,1;", "c1,1,1,1,51;",
            "c2,1,1,1,1;", "c2,1,0,1,0;", "c2,1,1,0,0;", "c2,51,1,1,0;", "c2,1,51,1,0;", "c2,1,1,51,0;", "c999,999,999,999,999;",
            "t0;", "t000;", "t201;", "t999;", "p3;", "p999;", "w3;", "w999;", "j3,0;", "j0,3;", "j999,0;", "j0,999;", "j3,3;",
        };
        for (String order : invalid) {
            Check.dueFault(Halls.ofEachLaw(), order, 0, 2, Check.INVALID);
            Check.dueFault(Halls.ofEachLaw(), "p0;" + order, 3, 2, Check.INVALID);
        }
        for (int group = 0; group < 3; group++) {
            for (int clock = 0; clock < 3; clock++) {
                if (group != clock) {
                    Check.dueFault(Halls.ofEachLaw(), "j" + group + "," + clock + ";", 0, 2, Check.NOT_POSSIBLE);
                }
            }
        }
    }

    private static void ordersAtTheLimits() {
        Check.sentence("the last values that are allowed in an order");
        noFault(Halls.ofEachLaw(), "c0,50,50,50,50;c1,50,0,0,0;c2,50,50,50,0;");
        noFault(Halls.ofEachLaw(), "t1;t200;p2;w2;j2,2;");
        RenewalClocks x = Check.typed(new RenewalClocks(), "c0,1,0,0,0;c0,2,0,0,0;c0,3,0,0,0;c0,4,0,0,0;c0,5,0,0,0;");
        Check.due("5 clocks, play()", x.play(), 5);
        noFault(x, "c0,6,0,0,0;");
        Check.dueFault(x, "c0,6,0,0,0;c0,7,0,0,0;", 11, 2, Check.LIMIT);
        Check.dueFault(x, "c0,6,0,0,0;c0,0,0,0,0;", 11, 2, Check.INVALID);
        x.group(0);
        noFault(x, "j0,0;j0,1;j0,2;j0,3;");
        Check.dueFault(x, "j0,0;j0,1;j0,2;j0,3;j0,4;", 20, 2, Check.LIMIT);
        Check.dueFault(x, "j0,0;j0,1;j0,2;j0,3;j0,3;", 20, 2, Check.NOT_POSSIBLE);
        Check.dueFault(x, "j0,0;j0,1;j0,2;j0,3;j0,5;", 20, 2, Check.INVALID);
    }

    private static void ordersOfFullHall() {
        Check.sentence("the error code that the call returns for it, where everything is full");
        RenewalClocks x = Halls.full();
        Check.dueFault(x, "c0,1,0,0,0;", 0, 2, Check.LIMIT);
        Check.dueFault(x, "c0,0,0,0,0;", 0, 2, Check.INVALID);
        Check.dueFault(x, "j0,4;", 0, 2, Check.LIMIT);
        Check.dueFault(x, "j0,0;", 0, 2, Check.NOT_POSSIBLE);
        Check.dueFault(x, "j0,5;", 0, 2, Check.NOT_POSSIBLE);
        Check.dueFault(x, "j4,0;", 0, 2, Check.INVALID);
        Check.dueFault(x, "j0,6;", 0, 2, Check.INVALID);
        Check.dueFault(x, "p6;", 0, 2, Check.INVALID);
        Check.dueFault(x, "w6;", 0, 2, Check.INVALID);
        noFault(x, "p5;w5;j3,0;j3,1;j3,2;");
        Check.dueFault(x, "j3,0;j3,1;j3,2;j3,3;", 15, 2, Check.LIMIT);
    }

    private static void orderOfTheLastTick() {
        Check.sentence("the error code that the call returns for it, at the last tick");
        RenewalClocks x = Halls.beforeLastTick(3, 5);
        noFault(x, "t3;");
        noFault(x, "t1;t1;t1;");
        Check.dueFault(x, "t4;", 0, 2, Check.LIMIT);
        Check.dueFault(x, "t3;t1;", 3, 2, Check.LIMIT);
        Check.dueFault(x, "t3;t0;", 3, 2, Check.INVALID);
        Check.dueFault(x, "t201;", 0, 2, Check.INVALID);
        Check.typed(x, "t2;t1;");
        Check.due("play() to the last tick", x.play(), 2);
        Check.due("count(2)", x.count(2), 99999);
        Check.due("play() beyond it", x.play(), Check.NOT_POSSIBLE);
        Check.due("fault(0)", x.fault(0), 0);
        Check.due("fault(2)", x.fault(2), Check.LIMIT);
    }

    private static void noFault() {
        Check.sentence("NOT_FOUND if the text has no fault");
        noFault(Halls.ofEachLaw(), "t1;");
        noFault(Halls.ofEachLaw(), "c0,1,2,3,4;t5;p3;w3;j0,3;");
        noFault(Halls.full(), Halls.FULL_TEXT);
    }

    private static void faultErrors() {
        Check.sentence("fault: what 0 to 2");
        int[] wrong = {-1, 3, Integer.MAX_VALUE, Integer.MIN_VALUE};
        for (int what : wrong) {
            Check.refused("fault(" + what + ") of no fault", Halls::full, x -> x.fault(what), Check.INVALID);
            Check.refused("fault(" + what + ") of no text", Halls::empty, x -> x.fault(what), Check.INVALID);
            Check.refused("fault(" + what + ") of a fault", () -> Check.typed(Halls.ofEachLaw(), "p0;p9;"),
                x -> x.fault(what), Check.INVALID);
        }
        RenewalClocks x = Check.typed(Halls.ofEachLaw(), "t5;w1;p9;");
        String before = Check.all(x);
        Check.due("fault(0)", x.fault(0), 6);
        Check.dueText("fault(0) does nothing", Check.all(x), before);
    }

    private static void playOfNoOrders() {
        Check.sentence("play: one change, also if there are none; returns how many there are");
        RenewalClocks x = new RenewalClocks();
        for (int states = 1; states <= 6; states++) {
            Check.due("play() of no orders", x.play(), 0);
            Check.due("count(9)", x.count(9), Math.min(states, 4));
        }
        x = Halls.full();
        x.clearText();
        String before = Check.all(x);
        Check.due("play() of an emptied text", x.play(), 0);
        Check.dueText("nothing else is changed", Check.all(x), before);
        Check.due("undo()", x.undo(), 3);
        Check.due("undo() of the state ahead of it", x.undo(), 2);
        Check.due("the tick ahead of it", x.count(2), 13);
    }

    private static void playOfTwentyOrders() {
        Check.sentence("Does all orders of the text, at most 60 characters");
        RenewalClocks x = Check.typed(new RenewalClocks(), "t1;");
        Check.due("play() of one order", x.play(), 1);
        x = Check.typed(Halls.ofGaps(50), Halls.FULL_TEXT);
        Check.due("play() of 20 orders", x.play(), 20);
        Check.due("passengers", x.count(5), 20);
        Check.due("what they waited", x.count(6), 1000);
        x = Check.typed(Halls.ofGaps(50), "t200;t200;t200;t200;t200;t200;t200;t200;t200;t200;t200;t200;");
        Check.due("play() of 12 orders", x.play(), 12);
        Check.due("the tick", x.count(2), 2400);
        Check.due("gaps told", x.count(4), 48);
    }

    private static void playIsOneChange() {
        Check.sentence("They are one change");
        RenewalClocks x = Halls.ofEachLaw();
        String before = Check.all(x);
        x.clearText();
        Check.typed(x, "c0,7,0,0,0;t9;p3;w3;j0,3;j0,0;");
        Check.due("count(9)", x.count(9), 4);
        Check.due("play()", x.play(), 6);
        Check.due("count(9) when it was full", x.count(9), 4);
        Check.due("undo() of all orders", x.undo(), 3);
        x.clearText();
        Check.dueText("all orders are undone", Check.all(x), before);
    }

    private static void playLeavesTheText() {
        Check.sentence("the text, which stays");
        RenewalClocks x = Check.typed(Halls.ofEachLaw(), "t5;p0;");
        for (int i = 1; i <= 3; i++) {
            Check.due("play()", x.play(), 2);
            Check.due("count(10)", x.count(10), 6);
            Check.due("the tick", x.count(2), 5 * i);
        }
        x.undo();
        Check.due("count(10) behind undo()", x.count(10), 6);
        Check.due("the next character", x.type('t'), 7);
        Check.due("fault(0)", x.fault(0), 6);
    }

    private static void playRefused() {
        Check.sentence("play: NOT_POSSIBLE if it has a fault");
        String[] texts = {"x", "t9;w1;p0", "t9;w1;p0;p9;", "j0,0;j0,0;", "c1,5,6,7,8;t0;", "t9;;"};
        for (String text : texts) {
            Check.refused("play() of " + text, () -> Check.typed(Halls.ofEachLaw(), text), RenewalClocks::play, Check.NOT_POSSIBLE);
            Check.refused("play() of " + text + " in a full hall", () -> Check.typed(Halls.full(), "w5;t9;" + text + "x"),
                RenewalClocks::play, Check.NOT_POSSIBLE);
        }
    }
}
