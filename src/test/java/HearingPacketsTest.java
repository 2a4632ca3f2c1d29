/** The sentences of channels, packets and hearing a packet, each with the cases at its edges. */
public final class HearingPacketsTest extends Checks {
    public static void main(String[] args) {
        casesNotNamed();
        callWhenIdle();
        callWhenCalling();
        acceptWhenCalling();
        clearWhenClearing();
        clearWhenAnother();
        clearedWhenClearing();
        renewingEndsAllNumbersAndTheRow();
        idleIsRenewed();
        acknowledgementsThatFit();
        passedIsTheAcknowledgement();
        numbersThatAreNotDue();
        twoAreThereAlready();
        dataArePutBehindTheRow();
        faultByAcknowledgementRenews();
        faultByNumberRenewsPassedToo();
        faultByFullRowRenewsPassedToo();
        moveDoesNotLookAtTheRow();
        faultInAFrame();
        resetWhenOpen();
        resetWhenResetting();
        renewedWhenResetting();
        valuesFromZeroToLast();
        otherChannelsStay();
        finish();
    }

    /** Whether the document names what this kind does in this state of the channel. */
    private static boolean isNamed(int s, int kind, int state) {
        switch (kind) {
            case CALL: return state == IDLE || state == CALLING && s == 1;
            case ACCEPT: return state == CALLING;
            case CLEAR: return state != IDLE;
            case CLEARED: return state == CLEARING;
            case DATA:
            case MOVE: return state == OPEN;
            case RESET: return state == OPEN || state == RESETTING;
            default: return state == RESETTING;
        }
    }

    private static void casesNotNamed() {
        sentence("in all cases that are not named, nothing is done");
        int cases = 0;
        for (int s = 0; s < 2; s++) {
            for (int kind = CALL; kind <= RENEWED; kind++) {
                for (int state = IDLE; state <= RESETTING; state++) {
                    if (!isNamed(s, kind, state)) {
                        ChannelledLink x = state == OPEN ? withNumbers(s) : inState(s, state);
                        String before = state(x);
                        due("handed", x.hand(s, 1, kind, 5, 6), true);
                        due("station " + s + ", packet " + kind + " in state " + state, state(x), before);
                        cases++;
                    }
                }
            }
        }
        due("cases", cases, 2 * 8 * 6 - 13 - 14);
    }

    private static void heard(int s, int kind, int state, int becomes, int sends) {
        ChannelledLink x = inState(s, state);
        x.hand(s, 1, kind, 0, 0);
        String what = "station " + s + ", packet " + kind + " in state " + state;
        due(what + " becomes", channel(x, s, 1), becomes + " 0 0 0 0 -1");
        due(what + " sends", x.link(1 - s, LINE), sends == 0 ? 0 : 1);
        due(what + " sends", Math.max(0, x.frame(1 - s, 0, 3)), sends);
    }

    private static void callWhenIdle() {
        sentence("CALL: IDLE becomes CALLED");
        heard(0, CALL, IDLE, CALLED, 0);
        heard(1, CALL, IDLE, CALLED, 0);
    }

    private static void callWhenCalling() {
        sentence("CALLING becomes CALLED at station 1 (at station 0 nothing)");
        heard(1, CALL, CALLING, CALLED, 0);
        heard(0, CALL, CALLING, CALLING, 0);
    }

    private static void acceptWhenCalling() {
        sentence("ACCEPT: CALLING becomes OPEN, and is renewed.");
        heard(0, ACCEPT, CALLING, OPEN, 0);
        heard(1, ACCEPT, CALLING, OPEN, 0);
    }

    private static void clearWhenClearing() {
        sentence("CLEAR: CLEARING becomes IDLE");
        heard(0, CLEAR, CLEARING, IDLE, 0);
        heard(1, CLEAR, CLEARING, IDLE, 0);
    }

    private static void clearWhenAnother() {
        sentence("any other but IDLE becomes IDLE, and CLEARED is sent");
        for (int s = 0; s < 2; s++) {
            heard(s, CLEAR, IDLE, IDLE, 0);
            heard(s, CLEAR, CALLING, IDLE, CLEARED);
            heard(s, CLEAR, CALLED, IDLE, CLEARED);
            heard(s, CLEAR, OPEN, IDLE, CLEARED);
            heard(s, CLEAR, RESETTING, IDLE, CLEARED);
        }
    }

    private static void clearedWhenClearing() {
        sentence("CLEARED: CLEARING becomes IDLE.");
        heard(0, CLEARED, CLEARING, IDLE, 0);
        heard(1, CLEARED, CLEARING, IDLE, 0);
    }

    private static void renewingEndsAllNumbersAndTheRow() {
        sentence("To RENEW a channel: its numbers are 0 and the row is empty.");
        for (int s = 0; s < 2; s++) {
            ChannelledLink x = withNumbers(s);
            x.hand(s, 1, RESET, 0, 0);
            due("no number, no data", channel(x, s, 1), "3 0 0 0 0 -1");
            x.hand(s, 1, DATA, 0, 0);
            x.hand(s, 1, DATA, 1, 0);
            due("room for two again", channel(x, s, 1), "3 0 0 2 0 0");
            due("none is there of before", x.receive(s, 1) + x.receive(s, 1) + x.peek(s, 1), -1);
        }
    }

    private static void idleIsRenewed() {
        sentence("A channel that becomes IDLE is renewed.");
        ChannelledLink x = withNumbers();
        x.hand(0, 1, CLEAR, 0, 0);
        due("OPEN, with two data", channel(x, 0, 1), IDLE_CHANNEL);
        x.call(0, 1);
        x.hand(0, 1, ACCEPT, 0, 0);
        due("open anew", channel(x, 0, 1), "3 0 0 0 0 -1");
        x.hand(0, 1, DATA, 0, 0);
        due("the row begins anew", channel(x, 0, 1), "3 0 0 1 0 0");
    }

    /** Channel 1 of station 0 is OPEN: passed is 1, next so many more, and nothing is under way. */
    private static ChannelledLink withDataUnderWay(int many) {
        ChannelledLink x = inState(0, OPEN);
        x.send(0, 1, 1, false);
        x.hand(0, 1, MOVE, 0, 1);
        for (int turn = 0; turn < many; turn++) {
            x.send(0, 1, 2, false);
        }
        drain(x);
        return x;
    }

    private static void acknowledgementsThatFit() {
        sentence("a FAULT, if the acknowledgement - passed is more than next - passed");
        for (int kind = DATA; kind <= MOVE; kind++) {
            for (int many = 0; many <= 2; many++) {
                for (int acknowledgement = 0; acknowledgement <= 7; acknowledgement++) {
                    ChannelledLink x = withDataUnderWay(many);
                    x.hand(0, 1, kind, 0, acknowledgement);
                    boolean fits = acknowledgement >= 1 && acknowledgement <= 1 + many;
                    String what = "packet " + kind + " with " + acknowledgement + ", passed 1, next " + (1 + many);
                    due(what, x.channel(0, 1, STATE), fits ? OPEN : RESETTING);
                    due(what + " sends RESET", x.link(1, LINE), fits ? 0 : 1);
                }
            }
        }
    }

    private static void passedIsTheAcknowledgement() {
        sentence("otherwise passed is the acknowledgement");
        for (int kind = DATA; kind <= MOVE; kind++) {
            for (int acknowledgement = 1; acknowledgement <= 3; acknowledgement++) {
                ChannelledLink x = withDataUnderWay(2);
                x.hand(0, 1, kind, 0, acknowledgement);
                due("packet " + kind + ", passed", x.channel(0, 1, PASSED), acknowledgement);
                due("next stays", x.channel(0, 1, NEXT), 3);
                due("due grows by DATA alone", x.channel(0, 1, DUE), kind == DATA ? 1 : 0);
            }
        }
    }

    private static void numbersThatAreNotDue() {
        sentence("Then DATA: a fault, if its number is not due");
        for (int due = 0; due <= 1; due++) {
            for (int number = 0; number <= 7; number++) {
                ChannelledLink x = inState(0, OPEN);
                if (due == 1) {
                    x.hand(0, 1, DATA, 0, 0);
                }
                x.hand(0, 1, DATA, number, 0);
                String want = number == due ? "3 0 0 " + (due + 1) + " 0 0" : "5 0 0 0 0 -1";
                due("DATA " + number + " when " + due + " is due", channel(x, 0, 1), want);
                due("RESET", Math.max(0, x.frame(1, 0, 3)), number == due ? 0 : RESET);
            }
        }
    }

    private static void twoAreThereAlready() {
        sentence("or due - taken is 2 already");
        ChannelledLink x = inState(0, OPEN);
        x.hand(0, 1, DATA, 0, 0);
        due("none was there", channel(x, 0, 1), "3 0 0 1 0 0");
        x.hand(0, 1, DATA, 1, 0);
        due("one was there", channel(x, 0, 1), "3 0 0 2 0 0");
        x.hand(0, 1, DATA, 2, 0);
        due("two were there", channel(x, 0, 1), "5 0 0 0 0 -1");
        due("RESET", line(x, 1), "[3 1 0 7 1 0 0 0]");
        ChannelledLink y = inState(0, OPEN);
        y.hand(0, 1, DATA, 0, 0);
        y.hand(0, 1, DATA, 1, 0);
        y.receive(0, 1);
        y.hand(0, 1, DATA, 2, 0);
        due("one of two was taken", channel(y, 0, 1), "3 0 0 3 1 0");
    }

    private static void dataArePutBehindTheRow() {
        sentence("otherwise due grows by 1, and the value, with more, is put behind the row");
        ChannelledLink x = opened(2);
        x.send(0, 2, 17, true);
        x.send(0, 2, 18, false);
        drain(x);
        due("due", x.channel(1, 2, DUE), 2);
        due("the first", x.receive(1, 2), 256 + 17);
        due("the second", x.receive(1, 2), 18);
        due("no third", x.peek(1, 2), -1);
    }

    private static void isFault(ChannelledLink x) {
        due("renewed and RESETTING", channel(x, 0, 1), "5 0 0 0 0 -1");
        drain(x);
        due("one packet was sent", x.link(0, OUT), 0);
    }

    private static void faultByAcknowledgementRenews() {
        sentence("On a fault the channel is renewed (passed too), becomes RESETTING, and RESET is sent.");
        for (int kind = DATA; kind <= MOVE; kind++) {
            ChannelledLink x = withNumbers();
            drain(x);
            x.hand(0, 1, kind, 3, 3);
            due("RESET", x.frame(1, 0, 3), RESET);
            due("on channel", x.frame(1, 0, 4), 1);
            isFault(x);
        }
    }

    private static void faultByNumberRenewsPassedToo() {
        sentence("On a fault the channel is renewed (passed too), becomes RESETTING, and RESET is sent.");
        ChannelledLink x = withDataUnderWay(2);
        x.hand(0, 1, DATA, 1, 3);
        due("RESET", line(x, 1), "[3 4 0 7 1 0 0 0]");
        isFault(x);
    }

    private static void faultByFullRowRenewsPassedToo() {
        sentence("On a fault the channel is renewed (passed too), becomes RESETTING, and RESET is sent.");
        ChannelledLink x = withNumbers();
        drain(x);
        x.hand(0, 1, DATA, 3, 2);
        due("RESET", x.frame(1, 0, 3), RESET);
        isFault(x);
    }

    private static void moveDoesNotLookAtTheRow() {
        sentence("DATA and MOVE when OPEN");
        ChannelledLink x = withNumbers();
        x.hand(0, 1, MOVE, 6, 2);
        due("MOVE when two data are there", channel(x, 0, 1), "3 2 2 3 1 0");
    }

    private static void faultInAFrame() {
        sentence("On a fault the channel is renewed (passed too), becomes RESETTING, and RESET is sent.");
        ChannelledLink x = opened(1);
        x.hand(1, 1, DATA, 0, 0);
        x.send(0, 1, 5, false);
        x.deliver(1);
        due("DATA 0 when 1 is due", channel(x, 1, 1), "5 0 0 0 0 -1");
        due("RESET in a CARRIER, no READY", line(x, 0), "[3 1 2 7 1 0 0 0]");
        x.deliver(0);
        due("RENEWED in a CARRIER", line(x, 1), "[3 2 2 8 1 0 0 0]");
        drain(x);
        due("OPEN anew at 0", channel(x, 0, 1), "3 0 0 0 0 -1");
        due("OPEN anew at 1", channel(x, 1, 1), "3 0 0 0 0 -1");
    }

    private static void resetWhenOpen() {
        sentence("RESET: OPEN is renewed, and RENEWED is sent");
        heard(0, RESET, OPEN, OPEN, RENEWED);
        heard(1, RESET, OPEN, OPEN, RENEWED);
        ChannelledLink x = withNumbers();
        x.hand(0, 1, RESET, 0, 0);
        due("with two data", channel(x, 0, 1), "3 0 0 0 0 -1");
    }

    private static void resetWhenResetting() {
        sentence("RESETTING is renewed and becomes OPEN");
        heard(0, RESET, RESETTING, OPEN, 0);
        heard(1, RESET, RESETTING, OPEN, 0);
    }

    private static void renewedWhenResetting() {
        sentence("RENEWED: RESETTING becomes OPEN.");
        heard(0, RENEWED, RESETTING, OPEN, 0);
        heard(1, RENEWED, RESETTING, OPEN, 0);
    }

    private static void valuesFromZeroToLast() {
        sentence("a value 0 .. 255 and whether there is MORE");
        for (int value : new int[] {0, 1, 127, 128, 254, 255}) {
            for (int more = 0; more <= 1; more++) {
                ChannelledLink x = opened(0);
                x.send(1, 0, value, more == 1);
                due("under way", x.frame(0, 0, 7), value + 256 * more);
                drain(x);
                due("heard", x.peek(0, 0), value + 256 * more);
            }
        }
    }

    private static void otherChannelsStay() {
        sentence("HEARING A PACKET, by the state of its channel");
        for (int kind = CALL; kind <= RENEWED; kind++) {
            ChannelledLink x = withNumbers();
            String before = channel(x, 0, 1);
            x.hand(0, 0, kind, 0, 0);
            x.hand(0, 2, kind, 0, 0);
            due("packet " + kind + " on channels 0 and 2", channel(x, 0, 1), before);
            due("nor at the peer", x.channel(1, 0, STATE) + x.channel(1, 2, STATE), 0);
        }
    }
}
