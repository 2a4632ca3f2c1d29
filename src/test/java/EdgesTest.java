import java.util.function.BiConsumer;

/** The sentences of promises 1 to 16, each with the cases at its edges. */
public final class EdgesTest extends Checks {
    private static final int[] TOO_SMALL = {Integer.MIN_VALUE, Integer.MIN_VALUE + 1, -256, -9, -2, -1};
    private static final int[] TOO_LARGE = {16, 17, 255, 256, 257, 1 << 20, Integer.MAX_VALUE - 1, Integer.MAX_VALUE};

    public static void main(String[] args) {
        newObject();
        openWhateverTheLink();
        openLeavesFrames();
        expireGrowsTries();
        expireFourthWhenSetting();
        expireFourthWhenUp();
        expireAgainWhenSetting();
        expireAgainWhenUp();
        expireRefused();
        deliverTheFirst();
        deliverNone();
        loseTheFirst();
        loseNone();
        handKinds();
        handNumbers();
        handNumbersOfNoMatter();
        handWhateverTheLink();
        handHearsThePacketAlone();
        handValue();
        callsAsWhenLinkIsNotUp();
        callsWithNineInOut();
        callsWithTenInOut();
        callsInWrongStates();
        callsDoWhatTheySay();
        sendNumbersAndAcknowledgement();
        sendWindow();
        sendValues();
        sendOrderOfRefusals();
        receiveTakes();
        receiveNone();
        receiveOrderOfRefusals();
        linkSays();
        linkOthers();
        channelSays();
        channelOthers();
        frameKinds();
        frameSaysOfItsPacket();
        frameOthers();
        peekLooks();
        fiveHundredAndTwelveCalls();
        finish();
    }

    private static void newObject() {
        sentence("Both links DOWN, the lines empty, all channels IDLE.");
        ChannelledLink x = new ChannelledLink();
        for (int s = 0; s < 2; s++) {
            int station = s;
            due("link of " + s, link(x, s), "0" + CLEAN + " 0");
            due("line of " + s, frame(x, s, 0), "-1 -1 -1 -1 -1 -1 -1 -1");
            for (int c = 0; c < 3; c++) {
                due("channel " + c, channel(x, s, c), IDLE_CHANNEL);
            }
            refused("expire", x, ILLEGAL, () -> x.expire(station));
            refused("deliver", x, NO_ELEMENT, () -> x.deliver(station));
            refused("lose", x, NO_ELEMENT, () -> x.lose(station));
        }
    }

    /** Station 0 with this link, nothing under way. */
    private static ChannelledLink withLink(int link) {
        ChannelledLink x = link == UP ? up() : new ChannelledLink();
        if (link == SETTING) {
            x.open(0);
            x.lose(1);
        }
        due("the link", x.link(0, LINK), link);
        return x;
    }

    private static void openWhateverTheLink() {
        sentence("Station s sets up, whatever its link was.");
        for (int link = DOWN; link <= UP; link++) {
            ChannelledLink x = withLink(link);
            String peer = link(x, 1);
            fillOut(x, 0, 0, 2);
            loseAll(x, 1);
            x.open(0);
            due("from " + link, link(x, 0), "1" + CLEAN + " 0");
            due("SETUP from " + link, line(x, 1), SETUP_FRAME);
            x.lose(1);
            due("the peer is as it was", link(x, 1), peer);
        }
    }

    private static void openLeavesFrames() {
        sentence("(Frames that are under way stay.)");
        ChannelledLink x = up();
        x.call(0, 1);
        x.call(1, 2);
        x.open(0);
        due("to the peer", line(x, 1), "[3 0 0 1 1 0 0 0][1 0 0 0 0 0 0 0]");
        due("to itself", line(x, 0), "[3 0 0 1 2 0 0 0]");
    }

    private static void expireGrowsTries() {
        sentence("Tries grows by 1.");
        for (int link = SETTING; link <= UP; link++) {
            ChannelledLink x = withLink(link);
            fillOut(x, 0, 0, 1);
            for (int tries = 1; tries <= 3; tries++) {
                due("answer", x.expire(0), tries);
                due("tries", x.link(0, TRIES), tries);
                due("the link stays", x.link(0, LINK), link);
            }
        }
    }

    private static void expireThrice(ChannelledLink x) {
        x.expire(0);
        x.expire(0);
        x.expire(0);
        loseAll(x, 1);
    }

    private static void expireFourthWhenSetting() {
        sentence("When it is then 4: a link that is SETTING is DOWN (tries is 0)");
        ChannelledLink x = withLink(SETTING);
        fillOut(x, 0, 0, 2);
        x.hand(0, 1, CALL, 0, 0);
        expireThrice(x);
        sentence("Answers what tries grew to. (Also 4, when they are 0 then.)");
        due("answer", x.expire(0), 4);
        sentence("When it is then 4: a link that is SETTING is DOWN (tries is 0)");
        due("DOWN, and nothing is cleaned", link(x, 0), "0 0 0 0 0 0 2 0");
        due("nor a channel", x.channel(0, 1, STATE), CALLED);
        due("nothing is sent", x.link(1, LINE), 0);
    }

    private static void expireFourthWhenUp() {
        sentence("one that is UP sets up");
        ChannelledLink x = withLink(UP);
        fillOut(x, 0, 0, 2);
        x.hand(0, 1, CALL, 0, 0);
        expireThrice(x);
        sentence("Answers what tries grew to. (Also 4, when they are 0 then.)");
        due("answer", x.expire(0), 4);
        sentence("one that is UP sets up");
        due("SETTING and clean", link(x, 0), "1" + CLEAN + " 0");
        due("channels too", channel(x, 0, 1), IDLE_CHANNEL);
        due("SETUP alone", line(x, 1), SETUP_FRAME);
        due("tries begin anew", x.expire(0), 1);
    }

    private static void expireAgainWhenSetting() {
        sentence("Otherwise SETTING sends SETUP again");
        ChannelledLink x = withLink(SETTING);
        fillOut(x, 0, 0, 1);
        x.hand(0, 1, CALL, 0, 0);
        x.expire(0);
        due("SETUP", line(x, 1), SETUP_FRAME);
        due("nothing is cleaned", link(x, 0), "1 0 0 0 1 0 1 0");
        due("nor a channel", x.channel(0, 1, STATE), CALLED);
    }

    private static void expireAgainWhenUp() {
        sentence("UP all unconfirmed packets, as for REJECT (without confirming or pumping)");
        ChannelledLink x = confirmedOutOfTurn(2);
        loseAll(x, 1);
        due("answer", x.expire(0), 1);
        due("the one that is unconfirmed", line(x, 1), "[3 2 0 4 0 0 0 0]");
        due("none of those that wait", link(x, 0), "2 3 2 0 1 1 4 0");
        ChannelledLink y = confirmedOutOfTurn(1);
        loseAll(y, 1);
        y.expire(0);
        due("both that are unconfirmed, the first one first", line(y, 1), "[3 1 0 4 0 0 0 0][3 2 0 4 0 0 0 0]");
    }

    private static void expireRefused() {
        sentence("IllegalStateException when the link is DOWN, or UP without unconfirmed packets.");
        ChannelledLink down = withLink(DOWN);
        fillOut(down, 0, 0, 2);
        refused("DOWN, though packets wait", down, ILLEGAL, () -> down.expire(0));
        ChannelledLink empty = withLink(UP);
        refused("UP, OUT empty", empty, ILLEGAL, () -> empty.expire(0));
        ChannelledLink waiting = confirmedOutOfTurn(3);
        refused("UP, packets wait alone", waiting, ILLEGAL, () -> waiting.expire(0));
        ChannelledLink confirmed = withLink(UP);
        goOn(confirmed, 1);
        refused("UP, all confirmed", confirmed, ILLEGAL, () -> confirmed.expire(0));
        due("SETTING, OUT empty", withLink(SETTING).expire(0), 1);
    }

    private static void deliverTheFirst() {
        sentence("The first frame of the line of station s comes, and is heard. Answers its kind.");
        ChannelledLink x = upWithSetups(0, 1);
        x.call(0, 2);
        due("SETUP", x.deliver(1), SETUP);
        due("it is gone", line(x, 1), "[3 0 0 1 2 0 0 0]");
        due("CARRIER, the last", x.deliver(1), CARRIER);
        due("none is left", x.link(1, LINE), 0);
        due("it was heard", x.channel(1, 2, STATE), CALLED);
        due("AGREED to the peer", x.deliver(0), AGREED);
        ChannelledLink y = up();
        fillOut(y, 0, 0, 2);
        y.deliver(1);
        due("READY", y.deliver(0), READY);
        y.expire(0);
        y.deliver(1);
        y.deliver(0);
        y.deliver(1);
        due("REJECT", y.deliver(0), REJECT);
    }

    private static void deliverNone() {
        sentence("NoSuchElementException when there is none.");
        ChannelledLink x = new ChannelledLink();
        x.open(0);
        refused("the peer's line has one", x, NO_ELEMENT, () -> x.deliver(0));
        x.deliver(1);
        refused("the one has come", x, NO_ELEMENT, () -> x.deliver(1));
    }

    private static void loseTheFirst() {
        sentence("The first frame of the line of station s is lost. Answers its kind.");
        ChannelledLink x = upWithSetups(0, 1);
        x.call(0, 2);
        String stations = link(x, 0) + channel(x, 1, 2);
        due("SETUP", x.lose(1), SETUP);
        due("it is gone", line(x, 1), "[3 0 0 1 2 0 0 0]");
        due("CARRIER, the last", x.lose(1), CARRIER);
        due("neither was heard", link(x, 0) + channel(x, 1, 2), stations);
        due("nor answered", x.link(0, LINE) + x.link(1, LINE), 0);
    }

    private static void loseNone() {
        sentence("NoSuchElementException when there is none.");
        ChannelledLink x = new ChannelledLink();
        x.open(0);
        refused("the peer's line has one", x, NO_ELEMENT, () -> x.lose(0));
        x.lose(1);
        refused("the one is lost", x, NO_ELEMENT, () -> x.lose(1));
    }

    private static void isHanded(boolean handed, int kind, int number, int acknowledgement) {
        ChannelledLink x = inState(0, OPEN);
        String before = state(x);
        String what = "kind " + kind + ", number " + number + ", acknowledgement " + acknowledgement;
        due(what, x.hand(0, 1, kind, number, acknowledgement), handed);
        if (!handed) {
            due(what + " changes nothing", state(x), before);
        }
    }

    private static void handKinds() {
        sentence("False, refused, when kind is not 1 .. 8");
        isHanded(false, 0, 0, 0);
        isHanded(true, 1, 0, 0);
        isHanded(true, 8, 0, 0);
        isHanded(false, 9, 0, 0);
        for (int kind : TOO_SMALL) {
            isHanded(false, kind, 0, 0);
        }
        for (int kind : TOO_LARGE) {
            isHanded(false, kind, 0, 0);
        }
    }

    private static void handNumbers() {
        sentence("or one of the numbers not 0 .. 7");
        for (int kind = CALL; kind <= RENEWED; kind++) {
            for (int number = -1; number <= 8; number++) {
                boolean fits = number >= 0 && number <= 7;
                isHanded(fits, kind, number, 0);
                isHanded(fits, kind, 0, number);
                isHanded(fits, kind, number, number);
            }
            for (int number : TOO_SMALL) {
                isHanded(false, kind, number, 0);
                isHanded(false, kind, 0, number);
            }
            for (int number : TOO_LARGE) {
                isHanded(false, kind, number, 0);
                isHanded(false, kind, 0, number);
            }
        }
    }

    private static void handNumbersOfNoMatter() {
        sentence("with the number and the acknowledgement (of no matter for kinds that have none)");
        for (int state = IDLE; state <= RESETTING; state++) {
            for (int kind = CALL; kind <= RENEWED; kind++) {
                if (kind != DATA && kind != MOVE) {
                    ChannelledLink x = inState(0, state);
                    ChannelledLink y = inState(0, state);
                    x.hand(0, 1, kind, 0, 0);
                    y.hand(0, 1, kind, 7, 7);
                    due("kind " + kind + " in state " + state, state(y), state(x));
                }
            }
        }
        ChannelledLink x = withNumbers();
        x.hand(0, 1, MOVE, 7, 2);
        due("the number of MOVE", channel(x, 0, 1), "3 2 2 3 1 0");
    }

    private static void handWhateverTheLink() {
        sentence("(whatever its link is; what it sends waits, if that is not UP)");
        for (int link = DOWN; link <= UP; link++) {
            ChannelledLink x = withLink(link);
            due("CALL", x.hand(0, 2, CALL, 0, 0), true);
            due("CALLED", x.channel(0, 2, STATE), CALLED);
            due("nothing is sent", x.link(0, OUT) + x.link(1, LINE), 0);
            due("CLEAR", x.hand(0, 2, CLEAR, 0, 0), true);
            due("CLEARED in OUT", x.link(0, OUT), 1);
            due("CLEARED under way", line(x, 1), link == UP ? "[3 0 0 4 2 0 0 0]" : "");
            due("expected stays", x.link(0, EXPECTED), 0);
        }
    }

    private static void handHearsThePacketAlone() {
        sentence("A packet of this kind comes to station s on channel c, as if it had been heard in a frame");
        ChannelledLink x = confirmedOutOfTurn(3);
        loseAll(x, 1);
        String before = link(x, 0);
        x.hand(0, 2, CALL, 0, 0);
        due("heard", x.channel(0, 2, STATE), CALLED);
        due("no frame is heard: none expected, confirmed or pumped", link(x, 0), before);
        due("nor READY sent", x.link(1, LINE), 0);
    }

    private static void handValue() {
        sentence("value 0 and not more");
        ChannelledLink x = inState(0, OPEN);
        x.hand(0, 1, DATA, 0, 0);
        due("peek", x.peek(0, 1), 0);
        due("receive", x.receive(0, 1), 0);
    }

    /** The calls of promises 7 to 12 on channel 1, as call, accept, clear, reset, send, receive. */
    private static void callNamed(String name, ChannelledLink x, int s) {
        switch (name) {
            case "call": x.call(s, 1); break;
            case "accept": x.accept(s, 1); break;
            case "clear": x.clear(s, 1); break;
            case "reset": x.reset(s, 1); break;
            case "send": due("send", x.send(s, 1, 3, true), true); break;
            default: x.receive(s, 1); break;
        }
    }

    private static void eachCall(BiConsumer<String, int[]> test) {
        test.accept("call", new int[] {IDLE});
        test.accept("accept", new int[] {CALLED});
        test.accept("clear", new int[] {CALLING, CALLED, OPEN, RESETTING});
        test.accept("reset", new int[] {OPEN});
        test.accept("send", new int[] {OPEN});
        test.accept("receive", new int[] {OPEN});
    }

    /** Channel 1 of station s in this state, with data there if it is OPEN. */
    private static ChannelledLink ready(int s, int state) {
        ChannelledLink x = inState(s, state);
        x.hand(s, 1, DATA, 0, 0);
        return x;
    }

    private static void callsAsWhenLinkIsNotUp() {
        sentence("IllegalStateException when the link is not UP");
        for (int link = DOWN; link <= SETTING; link++) {
            ChannelledLink x = withLink(link);
            refused("call, link " + link, x, ILLEGAL, () -> x.call(0, 1));
            x.hand(0, 1, CALL, 0, 0);
            refused("accept, link " + link, x, ILLEGAL, () -> x.accept(0, 1));
            refused("clear, link " + link, x, ILLEGAL, () -> x.clear(0, 1));
        }
    }

    private static void callsWithNineInOut() {
        sentence("more than 9 packets are in OUT");
        eachCall((name, states) -> {
            for (int state : states) {
                for (int s = 0; s < 2; s++) {
                    ChannelledLink x = ready(s, state);
                    fillOut(x, s, 0, 9);
                    callNamed(name, x, s);
                    due(name + " with 9 from " + state, x.link(s, OUT), 10);
                }
            }
        });
    }

    private static void callsWithTenInOut() {
        sentence("more than 9 packets are in OUT");
        eachCall((name, states) -> {
            for (int state : states) {
                for (int many : new int[] {10, 11, 15, 16}) {
                    ChannelledLink x = ready(1, state);
                    fillOut(x, 1, 0, many);
                    refused(name + " with " + many, x, ILLEGAL, () -> callNamed(name, x, 1));
                }
            }
        });
    }

    /** Which sentence says in which states of the channel a call is refused. */
    private static String sentenceOfStates(String name) {
        switch (name) {
            case "call": return "or the channel is not IDLE";
            case "accept": return "IllegalStateException as for call, but when the channel is not CALLED.";
            case "clear": return "IllegalStateException as for call, but when the channel is IDLE or CLEARING.";
            default: return "IllegalStateException as for call, but when the channel is not OPEN";
        }
    }

    private static void callsInWrongStates() {
        eachCall((name, states) -> {
            sentence(sentenceOfStates(name));
            for (int state = IDLE; state <= RESETTING; state++) {
                boolean fits = false;
                for (int right : states) {
                    fits |= right == state;
                }
                ChannelledLink x = ready(0, state);
                if (!fits) {
                    refused(name + " in state " + state, x, ILLEGAL, () -> callNamed(name, x, 0));
                } else {
                    due(name + " in state " + state, outcome(() -> callNamed(name, x, 0)), "nothing");
                }
            }
        });
    }

    private static void does(String name, ChannelledLink x, String channel, String packet) {
        drain(x);
        String numbers = x.link(0, SENT) + " " + x.link(0, EXPECTED) + " ";
        callNamed(name, x, 0);
        due(name + " leaves", channel(x, 0, 1), channel);
        due(name + " sends", line(x, 1), "[3 " + numbers + packet + "]");
    }

    private static void callsDoWhatTheySay() {
        sentence("CALL is sent, the channel is CALLING.");
        does("call", inState(0, IDLE), "1 0 0 0 0 -1", "1 1 0 0 0");
        sentence("ACCEPT is sent, the channel is renewed and OPEN.");
        does("accept", inState(0, CALLED), "3 0 0 0 0 -1", "2 1 0 0 0");
        sentence("CLEAR is sent, the channel is renewed and CLEARING.");
        does("clear", withNumbers(), "4 0 0 0 0 -1", "3 1 0 0 0");
        does("clear", inState(0, CALLING), "4 0 0 0 0 -1", "3 1 0 0 0");
        does("clear", inState(0, CALLED), "4 0 0 0 0 -1", "3 1 0 0 0");
        does("clear", inState(0, RESETTING), "4 0 0 0 0 -1", "3 1 0 0 0");
        sentence("RESET is sent, the channel is renewed and RESETTING.");
        does("reset", withNumbers(), "5 0 0 0 0 -1", "7 1 0 0 0");
    }

    private static void sendNumbersAndAcknowledgement() {
        sentence("Sends DATA with the number next and the acknowledgement taken on channel c; next grows by 1.");
        does("send", withNumbers(), "3 3 1 3 1 0", "5 1 2 1 259");
    }

    private static void sendWindow() {
        sentence("True; false, refused, when next - passed is 2.");
        ChannelledLink x = opened(2);
        due("when it is 0", x.send(0, 2, 1, false), true);
        due("when it is 1", x.send(0, 2, 2, false), true);
        String before = state(x);
        due("when it is 2", x.send(0, 2, 3, true), false);
        due("refused changes nothing", state(x), before);
        x.hand(0, 2, MOVE, 0, 1);
        due("when it is 1 again", x.send(0, 2, 4, false), true);
        due("when it is 2 again", x.send(0, 2, 5, false), false);
        x.hand(0, 2, MOVE, 0, 3);
        due("when it is 0 again", x.send(0, 2, 6, false), true);
        due("next", channel(x, 0, 2), "3 4 3 0 0 -1");
    }

    private static void sendValues() {
        sentence("IllegalArgumentException when value is not 0 .. 255");
        ChannelledLink x = opened(0);
        for (int value : TOO_SMALL) {
            refused("value " + value, x, ARGUMENT, () -> x.send(0, 0, value, false));
        }
        for (int value : new int[] {256, 257, 511, 512, 1 << 20, Integer.MAX_VALUE}) {
            refused("value " + value, x, ARGUMENT, () -> x.send(0, 0, value, true));
        }
        due("value 0", x.send(0, 0, 0, false), true);
        due("value 255", x.send(0, 0, 255, false), true);
        due("frames", line(x, 1), "[3 1 1 5 0 0 0 0][3 2 1 5 0 1 0 255]");
    }

    private static void sendOrderOfRefusals() {
        sentence("Where several exceptions that a call names fit, the one named first is thrown, "
                + "and an exception before false is answered.");
        ChannelledLink x = opened(0);
        x.send(0, 0, 1, false);
        x.send(0, 0, 2, false);
        refused("no station, value, window", x, INDEX, () -> x.send(2, 0, 256, false));
        refused("no channel, value, window", x, INDEX, () -> x.send(0, 3, 256, false));
        refused("value and state", x, ARGUMENT, () -> x.send(0, 1, 256, false));
        refused("value and window", x, ARGUMENT, () -> x.send(0, 0, -1, false));
        fillOut(x, 0, 1, 8);
        refused("value and OUT", x, ARGUMENT, () -> x.send(0, 0, 256, false));
        refused("OUT and window", x, ILLEGAL, () -> x.send(0, 0, 255, false));
        ChannelledLink down = new ChannelledLink();
        refused("value and link", down, ARGUMENT, () -> down.send(0, 0, 256, false));
    }

    private static void receiveTakes() {
        sentence("Takes the first data of channel c: taken grows by 1, and MOVE is sent with the acknowledgement taken. "
                + "Answers the value, and 256 more when there is more.");
        ChannelledLink x = opened(1);
        x.send(1, 1, 255, true);
        x.send(1, 1, 0, false);
        drain(x);
        due("the first", x.receive(0, 1), 511);
        due("taken", channel(x, 0, 1), "3 0 0 2 1 0");
        due("the last", x.receive(0, 1), 0);
        due("taken", channel(x, 0, 1), "3 0 0 2 2 -1");
        due("MOVE twice", line(x, 1), "[3 1 3 6 1 0 1 0][3 2 3 6 1 0 2 0]");
        drain(x);
        due("the peer hears", channel(x, 1, 1), "3 2 2 0 0 -1");
    }

    private static void receiveNone() {
        sentence("NoSuchElementException when there are no data.");
        ChannelledLink x = opened(1);
        refused("none has come", x, NO_ELEMENT, () -> x.receive(0, 1));
        x.hand(0, 1, DATA, 0, 0);
        refused("the peer has none", x, NO_ELEMENT, () -> x.receive(1, 1));
        x.receive(0, 1);
        refused("the one was taken", x, NO_ELEMENT, () -> x.receive(0, 1));
        x.hand(0, 1, DATA, 1, 0);
        x.hand(0, 1, RESET, 0, 0);
        refused("the one went with RESET", x, NO_ELEMENT, () -> x.receive(0, 1));
    }

    private static void receiveOrderOfRefusals() {
        sentence("Where several exceptions that a call names fit, the one named first is thrown");
        ChannelledLink x = opened(1);
        refused("no station and no data", x, INDEX, () -> x.receive(2, 1));
        refused("no channel and no data", x, INDEX, () -> x.receive(0, 3));
        refused("IDLE and no data", x, ILLEGAL, () -> x.receive(0, 0));
        fillOut(x, 0, 0, 10);
        refused("OUT and no data", x, ILLEGAL, () -> x.receive(0, 1));
        ChannelledLink down = new ChannelledLink();
        refused("DOWN and no data", down, ILLEGAL, () -> down.receive(0, 1));
        refused("no station and DOWN", down, INDEX, () -> down.expire(-1));
    }

    private static void linkSays() {
        sentence("what = 0 its link, 1 sent, 2 acknowledged, 3 expected, 4 tries, 5 whether it has rejected (1 or 0), "
                + "6 how many packets are in OUT, 7 how many frames are in its line");
        ChannelledLink x = up();
        goOn(x, 1);
        fillOut(x, 1, 0, 4);
        x.deliver(0);
        x.deliver(0);
        x.lose(1);
        fillOut(x, 0, 0, 7);
        fillOut(x, 1, 0, 3);
        x.expire(0);
        x.expire(0);
        x.lose(0);
        due("READY is still there", x.deliver(1), READY);
        due("each number is another", link(x, 1), "2 5 2 1 0 0 5 9");
        due("and of the peer", link(x, 0), "2 4 1 2 2 0 7 2");
        due("a CARRIER out of turn", x.lose(0), CARRIER);
        due("and another", x.deliver(0), CARRIER);
        due("rejected", x.link(0, 5), 1);
    }

    private static void channelSays() {
        sentence("what = 0 its state, 1 next, 2 passed, 3 due, 4 taken");
        ChannelledLink x = withNumbers();
        x.receive(0, 1);
        x.hand(0, 1, DATA, 3, 1);
        due("each number is another", channel(x, 0, 1), "3 2 1 4 2 0");
        for (int state = IDLE; state <= RESETTING; state++) {
            due("its state", inState(1, state).channel(1, 1, 0), state);
        }
    }

    private static void linkOthers() {
        sentence("-1 for others");
        ChannelledLink x = up();
        fillOut(x, 1, 0, 5);
        due("0 to 7 of one", link(x, 1), "2 3 0 0 0 0 5 0");
        due("0 to 7 of its peer", link(x, 0), "2 0 0 0 0 0 0 3");
        for (int s = 0; s < 2; s++) {
            due("8", x.link(s, 8), -1);
            for (int what : TOO_SMALL) {
                due("what " + what, x.link(s, what), -1);
            }
            for (int what : TOO_LARGE) {
                due("what " + what, x.link(s, what), -1);
            }
        }
    }

    private static void channelOthers() {
        sentence("-1 for others");
        ChannelledLink x = withNumbers();
        due("0 to 4", channel(x, 0, 1), "3 2 1 3 1 0");
        for (int what = 5; what <= 8; what++) {
            due("what " + what, x.channel(0, 1, what), -1);
        }
        for (int what : TOO_SMALL) {
            due("what " + what, x.channel(0, 1, what), -1);
        }
        for (int what : TOO_LARGE) {
            due("what " + what, x.channel(0, 1, what), -1);
        }
    }

    private static void frameKinds() {
        sentence("1 its number (0 if it has none), 2 its acknowledgement (likewise), "
                + "3 the kind of its packet (0 if it has none)");
        ChannelledLink x = up();
        goOn(x, 5);
        fillOut(x, 0, 0, 2);
        x.expire(0);
        x.deliver(1);
        x.lose(1);
        x.deliver(1);
        due("READY and REJECT have an acknowledgement", line(x, 0), "[4 0 6 0 0 0 0 0][5 0 6 0 0 0 0 0]");
        ChannelledLink y = opened(2);
        y.send(0, 2, 200, true);
        y.open(0);
        y.open(1);
        y.deliver(0);
        due("CARRIER, SETUP and AGREED", line(y, 1), "[3 1 1 5 2 0 0 456][1 0 0 0 0 0 0 0][2 0 0 0 0 0 0 0]");
    }

    private static void frameSaysOfItsPacket() {
        sentence("4 the packet's channel, 5 its number, 6 its acknowledgement, 7 its value and 256 more when there is more "
                + "(all 0 if it has none)");
        ChannelledLink x = withNumbers();
        drain(x);
        x.receive(0, 1);
        x.send(0, 1, 9, true);
        due("MOVE has no number and no value", frame(x, 1, 0), "3 4 0 6 1 0 2 0");
        due("DATA has all", frame(x, 1, 1), "3 5 0 5 1 2 2 265");
        x.reset(0, 1);
        due("RESET has none of these", frame(x, 1, 2), "3 6 0 7 1 0 0 0");
    }

    private static void frameOthers() {
        sentence("-1 when there is no such frame, or for others.");
        ChannelledLink x = up();
        x.call(0, 1);
        x.call(0, 2);
        due("frame 1", x.frame(1, 1, 0), CARRIER);
        due("frame 2", frame(x, 1, 2), "-1 -1 -1 -1 -1 -1 -1 -1");
        due("frame 2 and what 8", x.frame(1, 2, 8), -1);
        x.lose(1);
        due("frame 1 behind lose", frame(x, 1, 1), "-1 -1 -1 -1 -1 -1 -1 -1");
        due("what 8", x.frame(1, 0, 8), -1);
        due("frame 0 of the other line", x.frame(0, 0, 0), -1);
        for (int far : TOO_SMALL) {
            due("frame " + far, x.frame(1, far, 0), -1);
            due("what " + far, x.frame(1, 0, far), -1);
        }
        for (int far : TOO_LARGE) {
            due("frame " + far, x.frame(1, far, 0), -1);
            due("what " + far, x.frame(1, 0, far), -1);
        }
    }

    private static void peekLooks() {
        sentence("What receive would answer; -1 when there are no data.");
        ChannelledLink x = opened(1);
        due("none", x.peek(0, 1), -1);
        x.send(1, 1, 0, true);
        x.send(1, 1, 255, false);
        drain(x);
        String before = state(x);
        due("the first", x.peek(0, 1), 256);
        due("and again", x.peek(0, 1), 256);
        due("nothing is taken", state(x), before);
        due("receive", x.receive(0, 1), 256);
        due("the last", x.peek(0, 1), 255);
        due("receive", x.receive(0, 1), 255);
        due("none is left", x.peek(0, 1), -1);
        due("an IDLE channel", x.peek(0, 2), -1);
        x.hand(0, 1, DATA, 2, 0);
        x.reset(0, 1);
        due("RESETTING", x.peek(0, 1), -1);
        due("a new object", new ChannelledLink().peek(1, 2), -1);
    }

    private static void fiveHundredAndTwelveCalls() {
        sentence("An object is used for at most 512 calls after it has been made");
        ChannelledLink x = new ChannelledLink();
        x.open(0);
        x.deliver(1);
        x.deliver(0);
        x.call(0, 2);
        x.deliver(1);
        x.deliver(0);
        x.accept(1, 2);
        x.deliver(0);
        x.deliver(1);
        for (int turn = 0; turn < 83; turn++) {
            due("send", x.send(0, 2, turn, turn % 3 == 0), true);
            due("DATA", x.deliver(1), CARRIER);
            due("READY", x.deliver(0), READY);
            due("receive", x.receive(1, 2), turn % 3 == 0 ? turn + 256 : turn);
            due("MOVE", x.deliver(0), CARRIER);
            due("READY", x.deliver(1), READY);
        }
        due("call 508", x.link(0, SENT), (1 + 83) % 8);
        due("call 509", x.link(1, EXPECTED), (1 + 83) % 8);
        due("call 510", x.channel(0, 2, PASSED), 83 % 8);
        due("call 511", x.send(0, 2, 255, true), true);
        due("call 512", x.frame(1, 0, 7), 511);
    }
}
