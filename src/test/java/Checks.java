/** What the tests share: counting wrong answers, and objects brought to a state that many tests begin with. */
final class Checks {
    static final int LINK = 0, SENT = 1, ACKNOWLEDGED = 2, EXPECTED = 3, TRIES = 4, REJECTED = 5, OUT = 6, LINE = 7;
    static final int DOWN = 0, SETTING = 1, UP = 2;
    static final int SETUP = 1, AGREED = 2, CARRIER = 3, READY = 4, REJECT = 5;
    static final int STATE = 0, NEXT = 1, PASSED = 2, DUE = 3, TAKEN = 4;
    static final int IDLE = 0, CALLING = 1, CALLED = 2, OPEN = 3, CLEARING = 4, RESETTING = 5;
    static final int CALL = 1, ACCEPT = 2, CLEAR = 3, CLEARED = 4, DATA = 5, MOVE = 6, RESET = 7, RENEWED = 8;
    static final String INDEX = "IndexOutOfBoundsException";
    static final String ARGUMENT = "IllegalArgumentException";
    static final String ILLEGAL = "IllegalStateException";
    static final String NO_ELEMENT = "NoSuchElementException";

    private static int wrong = 0;
    private static int seen = 0;

    private Checks() {
    }

    static void due(String what, Object got, Object want) {
        seen++;
        if (!got.equals(want)) {
            wrong++;
            System.out.println(what + ": got " + got + ", due is " + want);
        }
    }

    static String outcome(Runnable call) {
        try {
            call.run();
            return "nothing";
        } catch (RuntimeException e) {
            return e.getClass().getSimpleName();
        }
    }

    /** The call must throw what is due and change nothing. */
    static void refused(String what, ChannelledLink x, String exception, Runnable call) {
        String before = state(x);
        due(what, outcome(call), exception);
        due(what + " changes nothing", state(x), before);
    }

    static void finish() {
        System.out.println(seen + " answers looked at, " + wrong + " wrong");
        if (wrong != 0) {
            System.exit(1);
        }
    }

    static ChannelledLink up() {
        ChannelledLink x = new ChannelledLink();
        x.open(0);
        x.deliver(1);
        x.deliver(0);
        return x;
    }

    /** Channel c is OPEN at both stations, and nothing is under way. */
    static ChannelledLink opened(int c) {
        ChannelledLink x = up();
        x.call(0, c);
        drain(x);
        x.accept(1, c);
        drain(x);
        return x;
    }

    static void drain(ChannelledLink x) {
        for (int turn = 0; turn < 1000 && x.link(0, LINE) + x.link(1, LINE) > 0; turn++) {
            x.deliver(x.link(0, LINE) > 0 ? 0 : 1);
        }
    }

    /** Each pair puts one CLEARED behind OUT, and leaves the channel IDLE. */
    static void fillOut(ChannelledLink x, int s, int c, int pairs) {
        for (int pair = 0; pair < pairs; pair++) {
            x.hand(s, c, CALL, 0, 0);
            x.hand(s, c, CLEAR, 0, 0);
        }
    }

    static String link(ChannelledLink x, int s) {
        StringBuilder text = new StringBuilder();
        for (int what = 0; what <= 7; what++) {
            text.append(x.link(s, what)).append(' ');
        }
        return text.toString().trim();
    }

    static String channel(ChannelledLink x, int s, int c) {
        StringBuilder text = new StringBuilder();
        for (int what = 0; what <= 4; what++) {
            text.append(x.channel(s, c, what)).append(' ');
        }
        return text.append(x.peek(s, c)).toString();
    }

    static String frame(ChannelledLink x, int s, int k) {
        StringBuilder text = new StringBuilder();
        for (int what = 0; what <= 7; what++) {
            text.append(x.frame(s, k, what)).append(' ');
        }
        return text.toString().trim();
    }

    static String line(ChannelledLink x, int s) {
        StringBuilder text = new StringBuilder();
        for (int k = 0; k < x.link(s, LINE); k++) {
            text.append('[').append(frame(x, s, k)).append(']');
        }
        return text.toString();
    }

    static String state(ChannelledLink x) {
        StringBuilder text = new StringBuilder();
        for (int s = 0; s < 2; s++) {
            text.append("station ").append(s).append(": ").append(link(x, s));
            for (int c = 0; c < 3; c++) {
                text.append(" | ").append(channel(x, s, c));
            }
            text.append(" | ").append(line(x, s)).append('\n');
        }
        return text.toString();
    }
}
