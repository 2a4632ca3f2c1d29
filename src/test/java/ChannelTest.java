/** Promises 6 to 12, 14 and 16: channels and packets. */
public final class ChannelTest extends Checks {
    public static void main(String[] args) {
        promise6Call();
        promise6Accept();
        promise6Clear();
        promise6Cleared();
        promise6Reset();
        promise6Renewed();
        promise6DataAndMove();
        promise6FaultsByAcknowledgement();
        promise6FaultsByNumber();
        promise6FaultByFullWindow();
        promise6WhateverTheLink();
        promise6SendsNoReady();
        promise7Call();
        promise7CallsThatCross();
        promise8Accept();
        promise9Clear();
        promise9ClearsThatCross();
        promise10Reset();
        promise10ResetsThatCross();
        promise11Send();
        promise11NumbersGoOnByEight();
        promise12Receive();
        promise12FreesTheWindow();
        promise14Channel();
        promise16Peek();
        atMostNineInOut();
        finish();
    }

    /** In each state of the channel: the state that follows, and the kind of the packet that is sent, 0 for none. */
    private static void table(int s, int kind, int[] becomes, int[] sends) {
        for (int state = 0; state <= 5; state++) {
            ChannelledLink x = inState(s, state);
            String what = "6: station " + s + ", packet " + kind + " in state " + state;
            due(what, x.hand(s, 1, kind, 0, 0), true);
            due(what + " becomes", x.channel(s, 1, 0), becomes[state]);
            due(what + " sends", Math.max(0, x.frame(1 - s, 0, 3)), sends[state]);
            due(what + " on channel", Math.max(0, x.frame(1 - s, 0, 4)), sends[state] == 0 ? 0 : 1);
            due(what + " once", x.link(1 - s, LINE), sends[state] == 0 ? 0 : 1);
            due(what + " leaves channel 0", channel(x, s, 0), "0 0 0 0 0 -1");
        }
    }

    private static final int[] NONE = {0, 0, 0, 0, 0, 0};

    private static void promise6Call() {
        table(0, CALL, new int[] {2, 1, 2, 3, 4, 5}, NONE);
        table(1, CALL, new int[] {2, 2, 2, 3, 4, 5}, NONE);
    }

    private static void promise6Accept() {
        table(0, ACCEPT, new int[] {0, 3, 2, 3, 4, 5}, NONE);
        table(1, ACCEPT, new int[] {0, 3, 2, 3, 4, 5}, NONE);
    }

    private static void promise6Clear() {
        int[] idle = {0, 0, 0, 0, 0, 0};
        table(0, CLEAR, idle, new int[] {0, 4, 4, 4, 0, 4});
        table(1, CLEAR, idle, new int[] {0, 4, 4, 4, 0, 4});
        ChannelledLink x = withNumbers();
        x.hand(0, 1, CLEAR, 0, 0);
        due("6: IDLE is renewed", channel(x, 0, 1), "0 0 0 0 0 -1");
    }

    private static void promise6Cleared() {
        table(0, CLEARED, new int[] {0, 1, 2, 3, 0, 5}, NONE);
        table(1, CLEARED, new int[] {0, 1, 2, 3, 0, 5}, NONE);
    }

    private static void promise6Reset() {
        table(0, RESET, new int[] {0, 1, 2, 3, 4, 3}, new int[] {0, 0, 0, 8, 0, 0});
        table(1, RESET, new int[] {0, 1, 2, 3, 4, 3}, new int[] {0, 0, 0, 8, 0, 0});
        ChannelledLink x = withNumbers();
        x.hand(0, 1, RESET, 5, 5);
        due("6: OPEN is renewed", channel(x, 0, 1), "3 0 0 0 0 -1");
    }

    private static void promise6Renewed() {
        table(0, RENEWED, new int[] {0, 1, 2, 3, 4, 3}, NONE);
        table(1, RENEWED, new int[] {0, 1, 2, 3, 4, 3}, NONE);
        ChannelledLink x = withNumbers();
        String before = channel(x, 0, 1);
        x.hand(0, 1, RENEWED, 0, 0);
        due("6: RENEWED when OPEN", channel(x, 0, 1), before);
        x.hand(0, 1, ACCEPT, 0, 0);
        due("6: ACCEPT when OPEN", channel(x, 0, 1), before);
    }

    private static void promise6DataAndMove() {
        table(0, DATA, new int[] {0, 1, 2, 3, 4, 5}, NONE);
        table(1, DATA, new int[] {0, 1, 2, 3, 4, 5}, NONE);
        table(0, MOVE, new int[] {0, 1, 2, 3, 4, 5}, NONE);
        table(1, MOVE, new int[] {0, 1, 2, 3, 4, 5}, NONE);
        for (int state = 0; state <= 5; state++) {
            ChannelledLink x = inState(0, state);
            x.hand(0, 1, DATA, 3, 3);
            boolean open = state == OPEN;
            due("6: fault in state " + state, x.channel(0, 1, 0), open ? RESETTING : state);
            due("6: no data in state " + state, x.peek(0, 1), -1);
        }
        ChannelledLink x = inState(0, OPEN);
        x.hand(0, 1, DATA, 0, 0);
        due("6: DATA", channel(x, 0, 1), "3 0 0 1 0 0");
        x.send(0, 1, 1, false);
        x.send(0, 1, 2, false);
        x.hand(0, 1, MOVE, 7, 1);
        due("6: MOVE, its number is of no matter", channel(x, 0, 1), "3 2 1 1 0 0");
        x.hand(0, 1, MOVE, 0, 1);
        due("6: the same MOVE", channel(x, 0, 1), "3 2 1 1 0 0");
        x.hand(0, 1, DATA, 1, 2);
        due("6: DATA with acknowledgement", channel(x, 0, 1), "3 2 2 2 0 0");
    }

    private static void promise6FaultsByAcknowledgement() {
        for (int kind = DATA; kind <= MOVE; kind++) {
            for (int acknowledgement = 0; acknowledgement <= 7; acknowledgement++) {
                ChannelledLink x = inState(0, OPEN);
                x.send(0, 1, 1, false);
                x.hand(0, 1, MOVE, 0, 1);
                x.send(0, 1, 2, false);
                drain(x);
                x.hand(0, 1, kind, 0, acknowledgement);
                boolean fits = acknowledgement == 1 || acknowledgement == 2;
                String what = "6: packet " + kind + " with acknowledgement " + acknowledgement;
                String taken = kind == DATA ? " 1 0 0" : " 0 0 -1";
                due(what, channel(x, 0, 1), fits ? "3 2 " + acknowledgement + taken : "5 0 0 0 0 -1");
                due(what + " sends", x.frame(1, 0, 3), fits ? -1 : RESET);
                due(what + " sends once", x.link(1, LINE), fits ? 0 : 1);
            }
        }
    }

    private static void promise6FaultsByNumber() {
        for (int number = 0; number <= 7; number++) {
            ChannelledLink x = inState(0, OPEN);
            x.hand(0, 1, DATA, 0, 0);
            x.hand(0, 1, DATA, number, 0);
            String want = number == 1 ? "3 0 0 2 0 0" : "5 0 0 0 0 -1";
            due("6: DATA " + number + " when 1 is due", channel(x, 0, 1), want);
            due("6: RESET is sent", x.frame(1, 0, 3), number == 1 ? -1 : RESET);
        }
    }

    private static void promise6FaultByFullWindow() {
        ChannelledLink x = inState(0, OPEN);
        x.hand(0, 1, DATA, 0, 0);
        x.hand(0, 1, DATA, 1, 0);
        x.receive(0, 1);
        x.hand(0, 1, DATA, 2, 0);
        due("6: two are there", channel(x, 0, 1), "3 0 0 3 1 0");
        x.hand(0, 1, DATA, 3, 0);
        due("6: a third is a fault", channel(x, 0, 1), "5 0 0 0 0 -1");
    }

    private static void promise6WhateverTheLink() {
        ChannelledLink x = new ChannelledLink();
        due("6: DOWN", x.hand(1, 2, CALL, 7, 7), true);
        due("6: CALLED", x.channel(1, 2, 0), CALLED);
        x.hand(1, 2, CLEAR, 0, 0);
        due("6: CLEARED waits", link(x, 1), "0 0 0 0 0 0 1 0");
        due("6: none is under way", x.link(0, LINE), 0);
        x.open(1);
        x.hand(1, 2, CALL, 0, 0);
        x.hand(1, 2, CLEAR, 0, 0);
        due("6: waits when SETTING", link(x, 1), "1 0 0 0 0 0 1 0");
        due("6: SETUP alone", x.link(0, LINE), 1);
    }

    private static void promise6SendsNoReady() {
        ChannelledLink x = up();
        x.hand(0, 0, CALL, 0, 0);
        due("6: a packet alone, no frame", link(x, 0), "2 0 0 0 0 0 0 0");
        due("6: nothing is sent", x.link(1, LINE), 0);
    }

    private static void promise7Call() {
        ChannelledLink x = up();
        x.call(1, 2);
        due("7: CALLING", channel(x, 1, 2), "1 0 0 0 0 -1");
        due("7: CALL", line(x, 0), "[3 0 0 1 2 0 0 0]");
        for (int state = 1; state <= 5; state++) {
            ChannelledLink y = inState(0, state);
            refused("7: in state " + state, y, ILLEGAL, () -> y.call(0, 1));
        }
    }

    private static void promise7CallsThatCross() {
        ChannelledLink x = up();
        x.call(0, 1);
        x.call(1, 1);
        x.deliver(0);
        x.deliver(1);
        due("7: station 0 goes on calling", x.channel(0, 1, 0), CALLING);
        due("7: station 1 is called", x.channel(1, 1, 0), CALLED);
        x.accept(1, 1);
        drain(x);
        due("7: OPEN at both", x.channel(0, 1, 0) + x.channel(1, 1, 0), 6);
    }

    private static void promise8Accept() {
        ChannelledLink x = inState(1, CALLED);
        x.accept(1, 1);
        due("8: OPEN", channel(x, 1, 1), "3 0 0 0 0 -1");
        due("8: ACCEPT", line(x, 0), "[3 0 0 2 1 0 0 0]");
        for (int state : new int[] {0, 1, 3, 4, 5}) {
            ChannelledLink y = inState(0, state);
            refused("8: in state " + state, y, ILLEGAL, () -> y.accept(0, 1));
        }
    }

    private static void promise9Clear() {
        for (int state : new int[] {1, 2, 3, 5}) {
            ChannelledLink x = inState(0, state);
            x.clear(0, 1);
            due("9: CLEARING from " + state, x.channel(0, 1, 0), CLEARING);
            due("9: CLEAR from " + state, x.frame(1, 0, 3), CLEAR);
        }
        for (int state : new int[] {0, 4}) {
            ChannelledLink x = inState(0, state);
            refused("9: in state " + state, x, ILLEGAL, () -> x.clear(0, 1));
        }
        ChannelledLink x = withNumbers();
        x.clear(0, 1);
        due("9: renewed", channel(x, 0, 1), "4 0 0 0 0 -1");
        ChannelledLink y = opened(0);
        y.clear(1, 0);
        drain(y);
        due("9: IDLE at both", y.channel(0, 0, 0) + y.channel(1, 0, 0), 0);
    }

    private static void promise9ClearsThatCross() {
        ChannelledLink x = opened(0);
        x.clear(0, 0);
        x.clear(1, 0);
        x.deliver(0);
        x.deliver(1);
        due("9: IDLE at both", x.channel(0, 0, 0) + x.channel(1, 0, 0), 0);
        due("9: no CLEARED but READY", x.frame(0, 0, 0) + x.frame(1, 0, 0), 2 * READY);
    }

    private static void promise10Reset() {
        ChannelledLink x = withNumbers();
        drain(x);
        x.reset(0, 1);
        due("10: RESETTING and renewed", channel(x, 0, 1), "5 0 0 0 0 -1");
        due("10: RESET", x.frame(1, 0, 3), RESET);
        for (int state : new int[] {0, 1, 2, 4, 5}) {
            ChannelledLink y = inState(0, state);
            refused("10: in state " + state, y, ILLEGAL, () -> y.reset(0, 1));
        }
        ChannelledLink z = opened(2);
        z.send(1, 2, 5, true);
        drain(z);
        z.reset(0, 2);
        drain(z);
        due("10: OPEN and renewed at 0", channel(z, 0, 2), "3 0 0 0 0 -1");
        due("10: OPEN and renewed at 1", channel(z, 1, 2), "3 0 0 0 0 -1");
    }

    private static void promise10ResetsThatCross() {
        ChannelledLink x = opened(2);
        x.reset(0, 2);
        x.reset(1, 2);
        x.deliver(0);
        x.deliver(1);
        due("10: OPEN at both", x.channel(0, 2, 0) + x.channel(1, 2, 0), 6);
        due("10: no RENEWED but READY", x.frame(0, 0, 0) + x.frame(1, 0, 0), 2 * READY);
    }

    private static void promise11Send() {
        ChannelledLink x = opened(0);
        due("11: first", x.send(1, 0, 0, false), true);
        due("11: second", x.send(1, 0, 255, true), true);
        due("11: frames", line(x, 0), "[3 1 1 5 0 0 0 0][3 2 1 5 0 1 0 511]");
        String before = state(x);
        due("11: third", x.send(1, 0, 1, false), false);
        due("11: refused changes nothing", state(x), before);
        due("11: an exception before false", outcome(() -> x.send(1, 0, 256, false)), ARGUMENT);
        refused("11: value -1", x, ARGUMENT, () -> x.send(1, 0, -1, false));
        refused("11: value before state", x, ARGUMENT, () -> x.send(1, 1, 256, false));
        fillOut(x, 1, 2, 7);
        due("11: false with 9 in OUT", x.send(1, 0, 1, false), false);
        fillOut(x, 1, 2, 1);
        refused("11: state before false", x, ILLEGAL, () -> x.send(1, 0, 1, false));
        for (int state : new int[] {0, 1, 2, 4, 5}) {
            ChannelledLink y = inState(0, state);
            refused("11: in state " + state, y, ILLEGAL, () -> y.send(0, 1, 1, false));
        }
    }

    private static void promise11NumbersGoOnByEight() {
        ChannelledLink x = opened(1);
        for (int turn = 0; turn < 20; turn++) {
            due("11: send " + turn, x.send(0, 1, turn, turn % 2 == 1), true);
            due("11: number", x.frame(1, 0, 5), turn % 8);
            drain(x);
            due("12: receive", x.receive(1, 1), turn % 2 == 1 ? turn + 256 : turn);
            due("12: MOVE", x.frame(0, 0, 6), (turn + 1) % 8);
            drain(x);
            int next = (turn + 1) % 8;
            due("14: sender", channel(x, 0, 1), "3 " + next + " " + next + " 0 0 -1");
            due("14: receiver", channel(x, 1, 1), "3 0 0 " + next + " " + next + " -1");
        }
    }

    private static void promise12Receive() {
        ChannelledLink x = opened(1);
        refused("12: no data", x, NO_ELEMENT, () -> x.receive(0, 1));
        x.send(1, 1, 200, true);
        x.send(1, 1, 100, false);
        drain(x);
        due("12: first, with more", x.receive(0, 1), 456);
        due("12: taken", channel(x, 0, 1), "3 0 0 2 1 100");
        due("12: MOVE with 1", line(x, 1), "[3 1 3 6 1 0 1 0]");
        due("12: second", x.receive(0, 1), 100);
        due("12: MOVE with 2", x.frame(1, 1, 6), 2);
        refused("12: no more data", x, NO_ELEMENT, () -> x.receive(0, 1));
        fillOut(x, 0, 2, 8);
        refused("12: state before no data", x, ILLEGAL, () -> x.receive(0, 1));
        for (int state : new int[] {0, 1, 2, 4, 5}) {
            ChannelledLink y = inState(0, state);
            refused("12: in state " + state, y, ILLEGAL, () -> y.receive(0, 1));
        }
    }

    private static void promise12FreesTheWindow() {
        ChannelledLink x = opened(1);
        x.send(0, 1, 1, false);
        x.send(0, 1, 2, false);
        drain(x);
        due("11: the link's READY does not free the window", x.send(0, 1, 3, false), false);
        x.receive(1, 1);
        x.send(1, 1, 9, false);
        due("11: DATA has taken as acknowledgement", x.frame(0, 1, 6), 1);
        x.deliver(0);
        due("12: MOVE does", channel(x, 0, 1), "3 2 1 0 0 -1");
        due("11: one more", x.send(0, 1, 3, false), true);
        due("11: and no other", x.send(0, 1, 4, false), false);
    }

    private static void promise14Channel() {
        ChannelledLink x = withNumbers();
        due("14: all", channel(x, 0, 1), "3 2 1 3 1 0");
        due("14: another channel", channel(x, 0, 2), "0 0 0 0 0 -1");
        for (int what : new int[] {-1, 5, Integer.MIN_VALUE, Integer.MAX_VALUE}) {
            due("14: what " + what, x.channel(0, 1, what), -1);
        }
    }

    private static void promise16Peek() {
        ChannelledLink x = opened(0);
        due("16: none", x.peek(1, 0), -1);
        x.send(0, 0, 3, true);
        x.send(0, 0, 4, false);
        drain(x);
        String before = state(x);
        due("16: first", x.peek(1, 0), 259);
        due("16: changes nothing", state(x), before);
        due("16: the peer has none", x.peek(0, 0), -1);
        due("16: as receive", x.receive(1, 0), 259);
        due("16: second", x.peek(1, 0), 4);
        fillOut(x, 1, 2, 12);
        due("16: also when OUT is too full for receive", x.peek(1, 0), 4);
    }

    private static void atMostNineInOut() {
        ChannelledLink x = up();
        x.hand(0, 1, CALL, 0, 0);
        fillOut(x, 0, 2, 9);
        x.call(0, 0);
        due("7: call with 9 in OUT", x.link(0, OUT), 10);
        refused("7: call with 10", x, ILLEGAL, () -> x.call(0, 2));
        refused("8: accept with 10", x, ILLEGAL, () -> x.accept(0, 1));
        refused("9: clear with 10", x, ILLEGAL, () -> x.clear(0, 0));
        x.hand(0, 0, ACCEPT, 0, 0);
        x.hand(0, 0, DATA, 0, 0);
        refused("10: reset with 10", x, ILLEGAL, () -> x.reset(0, 0));
        refused("11: send with 10", x, ILLEGAL, () -> x.send(0, 0, 1, false));
        refused("12: receive with 10", x, ILLEGAL, () -> x.receive(0, 0));
        x.deliver(1);
        x.deliver(0);
        due("12: receive with 9", x.receive(0, 0), 0);
    }
}
