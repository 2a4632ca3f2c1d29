import java.util.ArrayList;
import java.util.List;
import java.util.function.Supplier;

/**
 * "A call that throws or is refused changes nothing": in many states, every call that is refused there leaves an
 * object that goes on just as its twin does that was spared the call. So what no call shows at once (the packets in
 * OUT, the second of two data) is looked at too.
 */
public final class NothingChangesTest extends Checks {
    private interface Attempt {
        Object on(ChannelledLink x);
    }

    private static final int[] STATIONS = {-1, 0, 1, 2};
    private static final int[] CHANNELS = {-1, 0, 1, 2, 3};
    private static final int TURNS = 60;
    /** Of the attempts, those at places that are not there are refused in every state. */
    private static final int MANY = 600;

    private final List<String> names = new ArrayList<>();
    private final List<Attempt> attempts = new ArrayList<>();

    public static void main(String[] args) {
        sentence("A call that throws or is refused changes nothing.");
        NothingChangesTest test = new NothingChangesTest();
        test.gatherAttempts();
        test.eachRefusal("new", ChannelledLink::new);
        test.eachRefusal("SETTING, packets wait", NothingChangesTest::settingWithPackets);
        test.eachRefusal("UP", Checks::up);
        test.eachRefusal("channel 1 OPEN, with data", Checks::withNumbers);
        test.eachRefusal("channel 1 OPEN, window full", NothingChangesTest::windowFull);
        test.eachRefusal("ten in OUT", NothingChangesTest::tenInOut);
        test.eachRefusal("lines and OUT full", NothingChangesTest::allFull);
        for (int state = CALLING; state <= RESETTING; state++) {
            int wanted = state;
            test.eachRefusal("channel 1 in state " + state, () -> inState(1, wanted));
        }
        finish();
    }

    private void attempt(String name, Attempt attempt) {
        names.add(name);
        attempts.add(attempt);
    }

    private void gatherAttempts() {
        for (int s : STATIONS) {
            attempt("open " + s, x -> nothing(() -> x.open(s)));
            attempt("expire " + s, x -> x.expire(s));
            attempt("deliver " + s, x -> x.deliver(s));
            attempt("lose " + s, x -> x.lose(s));
            attempt("link " + s, x -> x.link(s, SENT));
            attempt("frame " + s, x -> x.frame(s, 0, 0));
            for (int c : CHANNELS) {
                gatherAttempts(s, c, s + " " + c);
            }
        }
    }

    private void gatherAttempts(int s, int c, String place) {
        attempt("call " + place, x -> nothing(() -> x.call(s, c)));
        attempt("accept " + place, x -> nothing(() -> x.accept(s, c)));
        attempt("clear " + place, x -> nothing(() -> x.clear(s, c)));
        attempt("reset " + place, x -> nothing(() -> x.reset(s, c)));
        attempt("receive " + place, x -> x.receive(s, c));
        attempt("channel " + place, x -> x.channel(s, c, STATE));
        attempt("peek " + place, x -> x.peek(s, c));
        for (int value : new int[] {-1, 0, 255, 256}) {
            attempt("send " + value + " at " + place, x -> x.send(s, c, value, true));
        }
        for (int kind = 0; kind <= 9; kind++) {
            int wanted = kind;
            attempt("hand " + kind + " at " + place, x -> x.hand(s, c, wanted, 0, 0));
            attempt("hand " + kind + " with 8 at " + place, x -> x.hand(s, c, wanted, 8, 0));
            attempt("hand " + kind + " with -1 at " + place, x -> x.hand(s, c, wanted, 0, -1));
        }
    }

    private static Object nothing(Runnable call) {
        call.run();
        return true;
    }

    private static boolean isRefused(ChannelledLink x, Attempt attempt) {
        try {
            return attempt.on(x).equals(false);
        } catch (RuntimeException e) {
            return true;
        }
    }

    private void eachRefusal(String what, Supplier<ChannelledLink> made) {
        String spared = goingOn(made.get());
        int refused = 0;
        for (int k = 0; k < attempts.size(); k++) {
            ChannelledLink x = made.get();
            if (isRefused(x, attempts.get(k))) {
                refused++;
                due(what + ", " + names.get(k), goingOn(x), spared);
            }
        }
        due(what + ": many are refused", refused >= MANY, true);
    }

    /** All that comes of an object when its frames are delivered, its data taken, and new calls made on it. */
    private static String goingOn(ChannelledLink x) {
        StringBuilder text = new StringBuilder(state(x));
        for (int turn = 0; turn < TURNS; turn++) {
            int s = turn % 2;
            if (x.link(s, LINE) > 0) {
                text.append(frame(x, s, 0)).append('/').append(x.deliver(s)).append(' ');
            } else if (turn % 5 == 0) {
                text.append(takeData(x, s));
            }
        }
        text.append(outcome(() -> x.call(0, 2))).append(outcome(() -> x.expire(0))).append(outcome(() -> x.expire(1)));
        return text.append(state(x)).toString();
    }

    private static String takeData(ChannelledLink x, int s) {
        StringBuilder text = new StringBuilder();
        for (int c = 0; c < 3; c++) {
            text.append(x.peek(s, c)).append(' ');
            if (x.peek(s, c) >= 0) {
                int channel = c;
                text.append(outcome(() -> x.receive(s, channel)));
            }
        }
        return text.toString();
    }

    private static ChannelledLink settingWithPackets() {
        ChannelledLink x = new ChannelledLink();
        x.open(0);
        x.expire(0);
        fillOut(x, 0, 0, 2);
        fillOut(x, 1, 2, 1);
        x.hand(0, 1, CALL, 0, 0);
        return x;
    }

    private static ChannelledLink windowFull() {
        ChannelledLink x = opened(1);
        x.send(0, 1, 5, true);
        x.send(0, 1, 6, false);
        x.send(1, 1, 7, false);
        x.send(1, 1, 8, true);
        return x;
    }

    private static ChannelledLink tenInOut() {
        ChannelledLink x = opened(1);
        x.send(0, 1, 5, true);
        fillOut(x, 0, 0, 4);
        fillOut(x, 0, 2, 5);
        x.hand(0, 1, DATA, 0, 0);
        return x;
    }

    private static ChannelledLink allFull() {
        ChannelledLink x = opened(1);
        x.hand(1, 1, DATA, 0, 0);
        x.hand(1, 1, DATA, 1, 0);
        for (int s = 0; s < 2; s++) {
            fillOut(x, s, 2, 8);
            fillOut(x, s, 0, 8);
            x.expire(s);
            x.expire(s);
            x.expire(s);
        }
        due("full", x.link(0, OUT) + x.link(1, OUT) + x.link(0, LINE) + x.link(1, LINE), 16 + 16 + 12 + 12);
        return x;
    }
}
