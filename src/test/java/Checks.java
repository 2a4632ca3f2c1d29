/**
 * What the tests share: counting wrong answers, and objects brought to a state that many tests begin with. A test
 * class may extend it to have its names at hand.
 */
abstract class Checks {
    static final int LINK = 0, SENT = 1, ACKNOWLEDGED = 2, EXPECTED = 3, TRIES = 4, REJECTED = 5, OUT = 6, LINE = 7;
    static final int DOWN = 0, SETTING = 1, UP = 2;
    static final int SETUP = 1, AGREED = 2, CARRIER = 3, READY = 4, REJECT = 5;
    static final int STATE = 0, NEXT = 1, PASSED = 2, DUE = 3, TAKEN = 4;
    static final int IDLE = 0, CALLING = 1, CALLED = 2, OPEN = 3, CLEARING = 4, RESETTING = 5;
    static final int CALL = 1, ACCEPT = 2, CLEAR = 3, CLEARED = 4, DATA = 5, MOVE = 6, RESET = 7, RENEWED = 8;
    static final String INDEX = "IndexOutOfBoundsException";
    static final String ARGUMENT = "IllegalArgumentException";
    static final String ILLEGAL = "IllegalStateException";
    static final String NO_ELEMENT = "NoSuchElementException";
    /** What link and channel say of a station that was cleaned (the link's state in front), and of an IDLE channel. */
    static final String CLEAN = " 0 0 0 0 0 0";
    static final String IDLE_CHANNEL = "0 0 0 0 0 -1";
    static final String SETUP_FRAME = "[1 0 0 0 0 0 0 0]";
    static final String AGREED_FRAME = "[2 0 0 0 0 0 0 0]";

    private static int wrong = 0;
    private static int seen = 0;
    private static String sentence = "";

    /** Begins the test of one sentence; its words, as they stand in the document, are told with a wrong answer. */
    static void sentence(String words) {
        sentence = "\"" + words + "\" ";
    }

    static void due(String what, Object got, Object want) {
        seen++;
        if (!got.equals(want)) {
            wrong++;
            System.out.println(sentence + what + ": got " + got + ", due is " + want);
        }
    }

    static String outcome(Runnable call) {
        try {
            call.run();
            return "nothing";
        } catch (RuntimeException e) {
            return e.getClass().getSimpleName();
        }
    }

    /** The call must throw what is due and change nothing. */
    static void refused(String what, ChannelledLink x, String exception, Runnable call) {
        String before = state(x);
        due(what, outcome(call), exception);
        due(what + " changes nothing", state(x), before);
    }

    static void finish() {
        System.out.println(seen + " answers looked at, " + wrong + " wrong");
        if (wrong != 0) {
            System.exit(1);
        }
    }

    static ChannelledLink up() {
        return upWithSetups(0, 0);
    }

    /** Both links are UP, and so many more SETUP of station s are under way to its peer. */
    static ChannelledLink upWithSetups(int s, int setups) {
        ChannelledLink x = new ChannelledLink();
        for (int turn = 0; turn <= setups; turn++) {
            x.open(s);
        }
        x.deliver(1 - s);
        x.deliver(s);
        return x;
    }

    /** Channel c is OPEN at both stations, and nothing is under way. */
    static ChannelledLink opened(int c) {
        ChannelledLink x = up();
        x.call(0, c);
        drain(x);
        x.accept(1, c);
        drain(x);
        return x;
    }

    /** Station s with channel 1 brought to this state, both links UP, nothing under way. */
    static ChannelledLink inState(int s, int state) {
        ChannelledLink x = up();
        if (state == CALLED || state == CLEARING) {
            x.hand(s, 1, CALL, 0, 0);
        } else if (state != IDLE) {
            x.call(s, 1);
        }
        if (state == CLEARING) {
            x.clear(s, 1);
        } else if (state == OPEN || state == RESETTING) {
            x.hand(s, 1, ACCEPT, 0, 0);
        }
        if (state == RESETTING) {
            x.reset(s, 1);
        }
        // The peer is IDLE or CALLED here, and answers none of these packets with another.
        drain(x);
        due("state of station " + s, x.channel(s, 1, STATE), state);
        due("nothing waits", x.link(s, OUT) + x.link(1 - s, LINE), 0);
        return x;
    }

    static ChannelledLink withNumbers() {
        return withNumbers(0);
    }

    /** Channel 1 of station s is OPEN: next 2, passed 1, due 3, taken 1, two data in the row. */
    static ChannelledLink withNumbers(int s) {
        ChannelledLink x = inState(s, OPEN);
        x.send(s, 1, 10, false);
        x.send(s, 1, 11, false);
        x.hand(s, 1, DATA, 0, 1);
        x.receive(s, 1);
        x.hand(s, 1, DATA, 1, 1);
        x.hand(s, 1, DATA, 2, 1);
        due("numbers", channel(x, s, 1), "3 2 1 3 1 0");
        return x;
    }

    /** Station 0 is UP anew and clean; READY 1, 2 and 3 of its earlier life come to it, SETUP of its new one to 1. */
    static ChannelledLink withReadiesOfAnEarlierLife() {
        ChannelledLink x = upWithSetups(0, 1);
        fillOut(x, 0, 0, 3);
        x.open(0);
        for (int turn = 0; turn < 4; turn++) {
            x.deliver(1);
        }
        x.deliver(0);
        due("a new life", link(x, 0), "2" + CLEAN + " 3");
        due("old READY", line(x, 0), "[4 0 1 0 0 0 0 0][4 0 2 0 0 0 0 0][4 0 3 0 0 0 0 0]");
        due("new SETUP", line(x, 1), SETUP_FRAME);
        return x;
    }

    /**
     * Of station 0, so many of three unconfirmed packets were confirmed by a CARRIER out of turn, and nothing is
     * pumped then: three more wait.
     */
    static ChannelledLink confirmedOutOfTurn(int confirmed) {
        ChannelledLink x = up();
        fillOut(x, 0, 0, 6);
        for (int turn = 0; turn < confirmed; turn++) {
            x.deliver(1);
        }
        loseAll(x, 0);
        x.call(1, 1);
        x.call(1, 2);
        x.lose(0);
        x.deliver(0);
        due("confirmed", link(x, 0), "2 3 " + confirmed + " 0 0 1 " + (6 - confirmed) + " 0");
        return x;
    }

    static void drain(ChannelledLink x) {
        for (int turn = 0; turn < 1000 && x.link(0, LINE) + x.link(1, LINE) > 0; turn++) {
            x.deliver(x.link(0, LINE) > 0 ? 0 : 1);
        }
    }

    static void loseAll(ChannelledLink x, int s) {
        for (int turn = 0; turn < 12 && x.link(s, LINE) > 0; turn++) {
            x.lose(s);
        }
    }

    /** Each pair puts one CLEARED behind OUT, and leaves the channel IDLE. */
    static void fillOut(ChannelledLink x, int s, int c, int pairs) {
        for (int pair = 0; pair < pairs; pair++) {
            x.hand(s, c, CALL, 0, 0);
            x.hand(s, c, CLEAR, 0, 0);
        }
    }

    /** Station 0 sends so many packets that are all confirmed: its numbers, and what station 1 expects, go on. */
    static void goOn(ChannelledLink x, int packets) {
        for (int packet = 0; packet < packets; packet++) {
            fillOut(x, 0, 0, 1);
            drain(x);
        }
    }

    static String link(ChannelledLink x, int s) {
        StringBuilder text = new StringBuilder();
        for (int what = 0; what <= 7; what++) {
            text.append(x.link(s, what)).append(' ');
        }
        return text.toString().trim();
    }

    static String channel(ChannelledLink x, int s, int c) {
        StringBuilder text = new StringBuilder();
        for (int what = 0; what <= 4; what++) {
            text.append(x.channel(s, c, what)).append(' ');
        }
        return text.append(x.peek(s, c)).toString();
    }

    static String frame(ChannelledLink x, int s, int k) {
        StringBuilder text = new StringBuilder();
        for (int what = 0; what <= 7; what++) {
            text.append(x.frame(s, k, what)).append(' ');
        }
        return text.toString().trim();
    }

    static String line(ChannelledLink x, int s) {
        return lineFrom(x, s, 0);
    }

    /** The frames of the line behind the first k. */
    static String lineFrom(ChannelledLink x, int s, int k) {
        StringBuilder text = new StringBuilder();
        for (int place = k; place < x.link(s, LINE); place++) {
            text.append('[').append(frame(x, s, place)).append(']');
        }
        return text.toString();
    }

    static String state(ChannelledLink x) {
        StringBuilder text = new StringBuilder();
        for (int s = 0; s < 2; s++) {
            text.append("station ").append(s).append(": ").append(link(x, s));
            for (int c = 0; c < 3; c++) {
                text.append(" | ").append(channel(x, s, c));
            }
            text.append(" | ").append(line(x, s)).append('\n');
        }
        return text.toString();
    }
}
