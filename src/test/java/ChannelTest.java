/** Promises 6 to 12, 14 and 16: channels and packets. */
public final class ChannelTest {
    public static void main(String[] args) {
        promise6Call();
        promise6Accept();
        promise6Clear();
        promise6Cleared();
        promise6Reset();
        promise6Renewed();
        promise6DataAndMove();
        promise6FaultsByAcknowledgement();
        promise6FaultsByNumber();
        promise6FaultByFullWindow();
        promise6WhateverTheLink();
        promise6SendsNoReady();
        promise7Call();
        promise7CallsThatCross();
        promise8Accept();
        promise9Clear();
        promise9ClearsThatCross();
        promise10Reset();
        promise10ResetsThatCross();
        promise11Send();
        promise11NumbersGoOnByEight();
        promise12Receive();
        promise12FreesTheWindow();
        promise14Channel();
        promise16Peek();
        atMostNineInOut();
        Checks.finish();
    }

    /** Station s with channel 1 brought to this state, both links UP, nothing under way. */
    private static ChannelledLink inState(int s, int state) {
        ChannelledLink x = Checks.up();
        int peer = 1 - s;
        if (state == Checks.CALLED || state == Checks.CLEARING) {
            x.hand(s, 1, Checks.CALL, 0, 0);
        } else if (state != Checks.IDLE) {
            x.call(s, 1);
        }
        if (state == Checks.CLEARING) {
            x.clear(s, 1);
        } else if (state == Checks.OPEN || state == Checks.RESETTING) {
            x.hand(s, 1, Checks.ACCEPT, 0, 0);
        }
        if (state == Checks.RESETTING) {
            x.reset(s, 1);
        }
        // The peer is IDLE or CALLED here, and answers none of these packets with another.
        Checks.drain(x);
        Checks.due("state of station " + s, x.channel(s, 1, 0), state);
        Checks.due("nothing waits", x.link(s, Checks.OUT) + x.link(peer, Checks.LINE), 0);
        return x;
    }

    /** In each state of the channel: the state that follows, and the kind of the packet that is sent, 0 for none. */
    private static void table(int s, int kind, int[] becomes, int[] sends) {
        for (int state = 0; state <= 5; state++) {
            ChannelledLink x = inState(s, state);
            String what = "6: station " + s + ", packet " + kind + " in state " + state;
            Checks.due(what, x.hand(s, 1, kind, 0, 0), true);
            Checks.due(what + " becomes", x.channel(s, 1, 0), becomes[state]);
            Checks.due(what + " sends", Math.max(0, x.frame(1 - s, 0, 3)), sends[state]);
            Checks.due(what + " on channel", Math.max(0, x.frame(1 - s, 0, 4)), sends[state] == 0 ? 0 : 1);
            Checks.due(what + " once", x.link(1 - s, Checks.LINE), sends[state] == 0 ? 0 : 1);
            Checks.due(what + " leaves channel 0", Checks.channel(x, s, 0), "0 0 0 0 0 -1");
        }
    }

    private static final int[] NONE = {0, 0, 0, 0, 0, 0};

    private static void promise6Call() {
        table(0, Checks.CALL, new int[] {2, 1, 2, 3, 4, 5}, NONE);
        table(1, Checks.CALL, new int[] {2, 2, 2, 3, 4, 5}, NONE);
    }

    private static void promise6Accept() {
        table(0, Checks.ACCEPT, new int[] {0, 3, 2, 3, 4, 5}, NONE);
    }

    private static void promise6Clear() {
        int[] idle = {0, 0, 0, 0, 0, 0};
        table(0, Checks.CLEAR, idle, new int[] {0, 4, 4, 4, 0, 4});
        table(1, Checks.CLEAR, idle, new int[] {0, 4, 4, 4, 0, 4});
        ChannelledLink x = withNumbers();
        x.hand(0, 1, Checks.CLEAR, 0, 0);
        Checks.due("6: IDLE is renewed", Checks.channel(x, 0, 1), "0 0 0 0 0 -1");
    }

    private static void promise6Cleared() {
        table(0, Checks.CLEARED, new int[] {0, 1, 2, 3, 0, 5}, NONE);
    }

    private static void promise6Reset() {
        table(0, Checks.RESET, new int[] {0, 1, 2, 3, 4, 3}, new int[] {0, 0, 0, 8, 0, 0});
        ChannelledLink x = withNumbers();
        x.hand(0, 1, Checks.RESET, 5, 5);
        Checks.due("6: OPEN is renewed", Checks.channel(x, 0, 1), "3 0 0 0 0 -1");
    }

    private static void promise6Renewed() {
        table(0, Checks.RENEWED, new int[] {0, 1, 2, 3, 4, 3}, NONE);
        ChannelledLink x = withNumbers();
        String before = Checks.channel(x, 0, 1);
        x.hand(0, 1, Checks.RENEWED, 0, 0);
        Checks.due("6: RENEWED when OPEN", Checks.channel(x, 0, 1), before);
        x.hand(0, 1, Checks.ACCEPT, 0, 0);
        Checks.due("6: ACCEPT when OPEN", Checks.channel(x, 0, 1), before);
    }

    /** Channel 1 of station 0: next 2, passed 1, due 3, taken 1, two data in the row. */
    private static ChannelledLink withNumbers() {
        ChannelledLink x = inState(0, Checks.OPEN);
        x.send(0, 1, 10, false);
        x.send(0, 1, 11, false);
        x.hand(0, 1, Checks.DATA, 0, 1);
        x.receive(0, 1);
        x.hand(0, 1, Checks.DATA, 1, 1);
        x.hand(0, 1, Checks.DATA, 2, 1);
        Checks.due("numbers", Checks.channel(x, 0, 1), "3 2 1 3 1 0");
        return x;
    }

    private static void promise6DataAndMove() {
        table(0, Checks.DATA, new int[] {0, 1, 2, 3, 4, 5}, NONE);
        table(0, Checks.MOVE, new int[] {0, 1, 2, 3, 4, 5}, NONE);
        for (int state = 0; state <= 5; state++) {
            ChannelledLink x = inState(0, state);
            x.hand(0, 1, Checks.DATA, 3, 3);
            boolean open = state == Checks.OPEN;
            Checks.due("6: fault in state " + state, x.channel(0, 1, 0), open ? Checks.RESETTING : state);
            Checks.due("6: no data in state " + state, x.peek(0, 1), -1);
        }
        ChannelledLink x = inState(0, Checks.OPEN);
        x.hand(0, 1, Checks.DATA, 0, 0);
        Checks.due("6: DATA", Checks.channel(x, 0, 1), "3 0 0 1 0 0");
        x.send(0, 1, 1, false);
        x.send(0, 1, 2, false);
        x.hand(0, 1, Checks.MOVE, 7, 1);
        Checks.due("6: MOVE, its number is of no matter", Checks.channel(x, 0, 1), "3 2 1 1 0 0");
        x.hand(0, 1, Checks.MOVE, 0, 1);
        Checks.due("6: the same MOVE", Checks.channel(x, 0, 1), "3 2 1 1 0 0");
        x.hand(0, 1, Checks.DATA, 1, 2);
        Checks.due("6: DATA with acknowledgement", Checks.channel(x, 0, 1), "3 2 2 2 0 0");
    }

    private static void promise6FaultsByAcknowledgement() {
        for (int kind = Checks.DATA; kind <= Checks.MOVE; kind++) {
            for (int acknowledgement = 0; acknowledgement <= 7; acknowledgement++) {
                ChannelledLink x = inState(0, Checks.OPEN);
                x.send(0, 1, 1, false);
                x.hand(0, 1, Checks.MOVE, 0, 1);
                x.send(0, 1, 2, false);
                Checks.drain(x);
                x.hand(0, 1, kind, 0, acknowledgement);
                boolean fits = acknowledgement == 1 || acknowledgement == 2;
                String what = "6: packet " + kind + " with acknowledgement " + acknowledgement;
                String taken = kind == Checks.DATA ? " 1 0 0" : " 0 0 -1";
                Checks.due(what, Checks.channel(x, 0, 1), fits ? "3 2 " + acknowledgement + taken : "5 0 0 0 0 -1");
                Checks.due(what + " sends", x.frame(1, 0, 3), fits ? -1 : Checks.RESET);
                Checks.due(what + " sends once", x.link(1, Checks.LINE), fits ? 0 : 1);
            }
        }
    }

    private static void promise6FaultsByNumber() {
        for (int number = 0; number <= 7; number++) {
            ChannelledLink x = inState(0, Checks.OPEN);
            x.hand(0, 1, Checks.DATA, 0, 0);
            x.hand(0, 1, Checks.DATA, number, 0);
            String want = number == 1 ? "3 0 0 2 0 0" : "5 0 0 0 0 -1";
            Checks.due("6: DATA " + number + " when 1 is due", Checks.channel(x, 0, 1), want);
            Checks.due("6: RESET is sent", x.frame(1, 0, 3), number == 1 ? -1 : Checks.RESET);
        }
    }

    private static void promise6FaultByFullWindow() {
        ChannelledLink x = inState(0, Checks.OPEN);
        x.hand(0, 1, Checks.DATA, 0, 0);
        x.hand(0, 1, Checks.DATA, 1, 0);
        x.receive(0, 1);
        x.hand(0, 1, Checks.DATA, 2, 0);
        Checks.due("6: two are there", Checks.channel(x, 0, 1), "3 0 0 3 1 0");
        x.hand(0, 1, Checks.DATA, 3, 0);
        Checks.due("6: a third is a fault", Checks.channel(x, 0, 1), "5 0 0 0 0 -1");
    }

    private static void promise6WhateverTheLink() {
        ChannelledLink x = new ChannelledLink();
        Checks.due("6: DOWN", x.hand(1, 2, Checks.CALL, 7, 7), true);
        Checks.due("6: CALLED", x.channel(1, 2, 0), Checks.CALLED);
        x.hand(1, 2, Checks.CLEAR, 0, 0);
        Checks.due("6: CLEARED waits", Checks.link(x, 1), "0 0 0 0 0 0 1 0");
        Checks.due("6: none is under way", x.link(0, Checks.LINE), 0);
        x.open(1);
        x.hand(1, 2, Checks.CALL, 0, 0);
        x.hand(1, 2, Checks.CLEAR, 0, 0);
        Checks.due("6: waits when SETTING", Checks.link(x, 1), "1 0 0 0 0 0 1 0");
        Checks.due("6: SETUP alone", x.link(0, Checks.LINE), 1);
    }

    private static void promise6SendsNoReady() {
        ChannelledLink x = Checks.up();
        x.hand(0, 0, Checks.CALL, 0, 0);
        Checks.due("6: a packet alone, no frame", Checks.link(x, 0), "2 0 0 0 0 0 0 0");
        Checks.due("6: nothing is sent", x.link(1, Checks.LINE), 0);
    }

    private static void promise7Call() {
        ChannelledLink x = Checks.up();
        x.call(1, 2);
        Checks.due("7: CALLING", Checks.channel(x, 1, 2), "1 0 0 0 0 -1");
        Checks.due("7: CALL", Checks.line(x, 0), "[3 0 0 1 2 0 0 0]");
        for (int state = 1; state <= 5; state++) {
            ChannelledLink y = inState(0, state);
            Checks.refused("7: in state " + state, y, Checks.ILLEGAL, () -> y.call(0, 1));
        }
    }

    private static void promise7CallsThatCross() {
        ChannelledLink x = Checks.up();
        x.call(0, 1);
        x.call(1, 1);
        x.deliver(0);
        x.deliver(1);
        Checks.due("7: station 0 goes on calling", x.channel(0, 1, 0), Checks.CALLING);
        Checks.due("7: station 1 is called", x.channel(1, 1, 0), Checks.CALLED);
        x.accept(1, 1);
        Checks.drain(x);
        Checks.due("7: OPEN at both", x.channel(0, 1, 0) + x.channel(1, 1, 0), 6);
    }

    private static void promise8Accept() {
        ChannelledLink x = inState(1, Checks.CALLED);
        x.accept(1, 1);
        Checks.due("8: OPEN", Checks.channel(x, 1, 1), "3 0 0 0 0 -1");
        Checks.due("8: ACCEPT", Checks.line(x, 0), "[3 0 0 2 1 0 0 0]");
        for (int state : new int[] {0, 1, 3, 4, 5}) {
            ChannelledLink y = inState(0, state);
            Checks.refused("8: in state " + state, y, Checks.ILLEGAL, () -> y.accept(0, 1));
        }
    }

    private static void promise9Clear() {
        for (int state : new int[] {1, 2, 3, 5}) {
            ChannelledLink x = inState(0, state);
            x.clear(0, 1);
            Checks.due("9: CLEARING from " + state, x.channel(0, 1, 0), Checks.CLEARING);
            Checks.due("9: CLEAR from " + state, x.frame(1, 0, 3), Checks.CLEAR);
        }
        for (int state : new int[] {0, 4}) {
            ChannelledLink x = inState(0, state);
            Checks.refused("9: in state " + state, x, Checks.ILLEGAL, () -> x.clear(0, 1));
        }
        ChannelledLink x = withNumbers();
        x.clear(0, 1);
        Checks.due("9: renewed", Checks.channel(x, 0, 1), "4 0 0 0 0 -1");
        ChannelledLink y = Checks.opened(0);
        y.clear(1, 0);
        Checks.drain(y);
        Checks.due("9: IDLE at both", y.channel(0, 0, 0) + y.channel(1, 0, 0), 0);
    }

    private static void promise9ClearsThatCross() {
        ChannelledLink x = Checks.opened(0);
        x.clear(0, 0);
        x.clear(1, 0);
        x.deliver(0);
        x.deliver(1);
        Checks.due("9: IDLE at both", x.channel(0, 0, 0) + x.channel(1, 0, 0), 0);
        Checks.due("9: no CLEARED but READY", x.frame(0, 0, 0) + x.frame(1, 0, 0), 2 * Checks.READY);
    }

    private static void promise10Reset() {
        ChannelledLink x = withNumbers();
        Checks.drain(x);
        x.reset(0, 1);
        Checks.due("10: RESETTING and renewed", Checks.channel(x, 0, 1), "5 0 0 0 0 -1");
        Checks.due("10: RESET", x.frame(1, 0, 3), Checks.RESET);
        for (int state : new int[] {0, 1, 2, 4, 5}) {
            ChannelledLink y = inState(0, state);
            Checks.refused("10: in state " + state, y, Checks.ILLEGAL, () -> y.reset(0, 1));
        }
        ChannelledLink z = Checks.opened(2);
        z.send(1, 2, 5, true);
        Checks.drain(z);
        z.reset(0, 2);
        Checks.drain(z);
        Checks.due("10: OPEN and renewed at 0", Checks.channel(z, 0, 2), "3 0 0 0 0 -1");
        Checks.due("10: OPEN and renewed at 1", Checks.channel(z, 1, 2), "3 0 0 0 0 -1");
    }

    private static void promise10ResetsThatCross() {
        ChannelledLink x = Checks.opened(2);
        x.reset(0, 2);
        x.reset(1, 2);
        x.deliver(0);
        x.deliver(1);
        Checks.due("10: OPEN at both", x.channel(0, 2, 0) + x.channel(1, 2, 0), 6);
        Checks.due("10: no RENEWED but READY", x.frame(0, 0, 0) + x.frame(1, 0, 0), 2 * Checks.READY);
    }

    private static void promise11Send() {
        ChannelledLink x = Checks.opened(0);
        Checks.due("11: first", x.send(1, 0, 0, false), true);
        Checks.due("11: second", x.send(1, 0, 255, true), true);
        Checks.due("11: frames", Checks.line(x, 0), "[3 1 1 5 0 0 0 0][3 2 1 5 0 1 0 511]");
        String before = Checks.state(x);
        Checks.due("11: third", x.send(1, 0, 1, false), false);
        Checks.due("11: refused changes nothing", Checks.state(x), before);
        Checks.due("11: an exception before false", Checks.outcome(() -> x.send(1, 0, 256, false)), Checks.ARGUMENT);
        Checks.refused("11: value -1", x, Checks.ARGUMENT, () -> x.send(1, 0, -1, false));
        Checks.refused("11: value before state", x, Checks.ARGUMENT, () -> x.send(1, 1, 256, false));
        Checks.fillOut(x, 1, 2, 7);
        Checks.due("11: false with 9 in OUT", x.send(1, 0, 1, false), false);
        Checks.fillOut(x, 1, 2, 1);
        Checks.refused("11: state before false", x, Checks.ILLEGAL, () -> x.send(1, 0, 1, false));
        for (int state : new int[] {0, 1, 2, 4, 5}) {
            ChannelledLink y = inState(0, state);
            Checks.refused("11: in state " + state, y, Checks.ILLEGAL, () -> y.send(0, 1, 1, false));
        }
    }

    private static void promise11NumbersGoOnByEight() {
        ChannelledLink x = Checks.opened(1);
        for (int turn = 0; turn < 20; turn++) {
            Checks.due("11: send " + turn, x.send(0, 1, turn, turn % 2 == 1), true);
            Checks.due("11: number", x.frame(1, 0, 5), turn % 8);
            Checks.drain(x);
            Checks.due("12: receive", x.receive(1, 1), turn % 2 == 1 ? turn + 256 : turn);
            Checks.due("12: MOVE", x.frame(0, 0, 6), (turn + 1) % 8);
            Checks.drain(x);
            int next = (turn + 1) % 8;
            Checks.due("14: sender", Checks.channel(x, 0, 1), "3 " + next + " " + next + " 0 0 -1");
            Checks.due("14: receiver", Checks.channel(x, 1, 1), "3 0 0 " + next + " " + next + " -1");
        }
    }

    private static void promise12Receive() {
        ChannelledLink x = Checks.opened(1);
        Checks.refused("12: no data", x, Checks.NO_ELEMENT, () -> x.receive(0, 1));
        x.send(1, 1, 200, true);
        x.send(1, 1, 100, false);
        Checks.drain(x);
        Checks.due("12: first, with more", x.receive(0, 1), 456);
        Checks.due("12: taken", Checks.channel(x, 0, 1), "3 0 0 2 1 100");
        Checks.due("12: MOVE with 1", Checks.line(x, 1), "[3 1 3 6 1 0 1 0]");
        Checks.due("12: second", x.receive(0, 1), 100);
        Checks.due("12: MOVE with 2", x.frame(1, 1, 6), 2);
        Checks.refused("12: no more data", x, Checks.NO_ELEMENT, () -> x.receive(0, 1));
        Checks.fillOut(x, 0, 2, 8);
        Checks.refused("12: state before no data", x, Checks.ILLEGAL, () -> x.receive(0, 1));
        for (int state : new int[] {0, 1, 2, 4, 5}) {
            ChannelledLink y = inState(0, state);
            Checks.refused("12: in state " + state, y, Checks.ILLEGAL, () -> y.receive(0, 1));
        }
    }

    private static void promise12FreesTheWindow() {
        ChannelledLink x = Checks.opened(1);
        x.send(0, 1, 1, false);
        x.send(0, 1, 2, false);
        Checks.drain(x);
        Checks.due("11: the link's READY does not free the window", x.send(0, 1, 3, false), false);
        x.receive(1, 1);
        x.send(1, 1, 9, false);
        Checks.due("11: DATA has taken as acknowledgement", x.frame(0, 1, 6), 1);
        x.deliver(0);
        Checks.due("12: MOVE does", Checks.channel(x, 0, 1), "3 2 1 0 0 -1");
        Checks.due("11: one more", x.send(0, 1, 3, false), true);
        Checks.due("11: and no other", x.send(0, 1, 4, false), false);
    }

    private static void promise14Channel() {
        ChannelledLink x = withNumbers();
        Checks.due("14: all", Checks.channel(x, 0, 1), "3 2 1 3 1 0");
        Checks.due("14: another channel", Checks.channel(x, 0, 2), "0 0 0 0 0 -1");
        for (int what : new int[] {-1, 5, Integer.MIN_VALUE, Integer.MAX_VALUE}) {
            Checks.due("14: what " + what, x.channel(0, 1, what), -1);
        }
    }

    private static void promise16Peek() {
        ChannelledLink x = Checks.opened(0);
        Checks.due("16: none", x.peek(1, 0), -1);
        x.send(0, 0, 3, true);
        x.send(0, 0, 4, false);
        Checks.drain(x);
        String before = Checks.state(x);
        Checks.due("16: first", x.peek(1, 0), 259);
        Checks.due("16: changes nothing", Checks.state(x), before);
        Checks.due("16: the peer has none", x.peek(0, 0), -1);
        Checks.due("16: as receive", x.receive(1, 0), 259);
        Checks.due("16: second", x.peek(1, 0), 4);
        Checks.fillOut(x, 1, 2, 12);
        Checks.due("16: also when OUT is too full for receive", x.peek(1, 0), 4);
    }

    private static void atMostNineInOut() {
        ChannelledLink x = Checks.up();
        x.hand(0, 1, Checks.CALL, 0, 0);
        Checks.fillOut(x, 0, 2, 9);
        x.call(0, 0);
        Checks.due("7: call with 9 in OUT", x.link(0, Checks.OUT), 10);
        Checks.refused("7: call with 10", x, Checks.ILLEGAL, () -> x.call(0, 2));
        Checks.refused("8: accept with 10", x, Checks.ILLEGAL, () -> x.accept(0, 1));
        Checks.refused("9: clear with 10", x, Checks.ILLEGAL, () -> x.clear(0, 0));
        x.hand(0, 0, Checks.ACCEPT, 0, 0);
        x.hand(0, 0, Checks.DATA, 0, 0);
        Checks.refused("10: reset with 10", x, Checks.ILLEGAL, () -> x.reset(0, 0));
        Checks.refused("11: send with 10", x, Checks.ILLEGAL, () -> x.send(0, 0, 1, false));
        Checks.refused("12: receive with 10", x, Checks.ILLEGAL, () -> x.receive(0, 0));
        x.deliver(1);
        x.deliver(0);
        Checks.due("12: receive with 9", x.receive(0, 0), 0);
    }
}
