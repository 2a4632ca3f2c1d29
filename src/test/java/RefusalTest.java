/** Stations and channels that are not there, links that are not UP, and packets that cannot be handed. */
public final class RefusalTest extends Checks {
    private static final int[] NO_STATIONS = {-1, 2, 3, Integer.MIN_VALUE, Integer.MAX_VALUE};
    private static final int[] NO_CHANNELS = {-1, 3, 4, Integer.MIN_VALUE, Integer.MAX_VALUE};

    public static void main(String[] args) {
        sentence("Numbers of stations and channels that are not there are refused with IndexOutOfBoundsException, "
                + "before all else.");
        for (ChannelledLink x : new ChannelledLink[] {new ChannelledLink(), up(), opened(1)}) {
            for (int s : NO_STATIONS) {
                noSuchStation(x, s);
                noSuchPlace(x, s, 0);
                noSuchPlace(x, s, 3);
            }
            for (int c : NO_CHANNELS) {
                noSuchPlace(x, 0, c);
                noSuchPlace(x, 1, c);
            }
            cannotBeHanded(x);
        }
        linkIsNotUp();
        placesThatAreThere();
        finish();
    }

    private static void placesThatAreThere() {
        sentence("STATIONS are 0 and 1, each the PEER of the other; CHANNELS 0 .. 2.");
        for (int s = 0; s < 2; s++) {
            for (int c = 0; c < 3; c++) {
                ChannelledLink x = up();
                x.call(s, c);
                due("CALL goes to the peer", line(x, 1 - s), "[3 0 0 1 " + c + " 0 0 0]");
                due("not to itself", x.link(s, LINE), 0);
                x.deliver(1 - s);
                due("CALLED at the peer", x.channel(1 - s, c, STATE), CALLED);
                due("CALLING here", x.channel(s, c, STATE), CALLING);
            }
        }
    }

    private static void noSuchStation(ChannelledLink x, int s) {
        refused("2: open " + s, x, INDEX, () -> x.open(s));
        refused("3: expire " + s, x, INDEX, () -> x.expire(s));
        refused("4: deliver " + s, x, INDEX, () -> x.deliver(s));
        refused("5: lose " + s, x, INDEX, () -> x.lose(s));
        refused("13: link " + s, x, INDEX, () -> x.link(s, 0));
        refused("13: link before what " + s, x, INDEX, () -> x.link(s, -1));
        refused("15: frame " + s, x, INDEX, () -> x.frame(s, 0, 0));
        refused("15: frame before k and what " + s, x, INDEX, () -> x.frame(s, -1, -1));
    }

    private static void noSuchPlace(ChannelledLink x, int s, int c) {
        String place = " " + s + " " + c;
        refused("6: hand" + place, x, INDEX, () -> x.hand(s, c, CALL, 0, 0));
        refused("6: hand before false" + place, x, INDEX, () -> x.hand(s, c, 0, 8, -1));
        refused("7: call" + place, x, INDEX, () -> x.call(s, c));
        refused("8: accept" + place, x, INDEX, () -> x.accept(s, c));
        refused("9: clear" + place, x, INDEX, () -> x.clear(s, c));
        refused("10: reset" + place, x, INDEX, () -> x.reset(s, c));
        refused("11: send" + place, x, INDEX, () -> x.send(s, c, 0, false));
        refused("11: send before value" + place, x, INDEX, () -> x.send(s, c, 256, false));
        refused("12: receive" + place, x, INDEX, () -> x.receive(s, c));
        refused("14: channel" + place, x, INDEX, () -> x.channel(s, c, 0));
        refused("14: channel before what" + place, x, INDEX, () -> x.channel(s, c, -1));
        refused("16: peek" + place, x, INDEX, () -> x.peek(s, c));
    }

    private static void cannotBeHanded(ChannelledLink x) {
        for (int kind : new int[] {-1, 0, 9, 16, 17, Integer.MIN_VALUE, Integer.MAX_VALUE}) {
            notHanded(x, kind, 0, 0);
        }
        for (int number : new int[] {-1, 8, 9, Integer.MIN_VALUE, Integer.MAX_VALUE}) {
            for (int kind = 1; kind <= 8; kind++) {
                notHanded(x, kind, number, 0);
                notHanded(x, kind, 0, number);
            }
        }
    }

    private static void notHanded(ChannelledLink x, int kind, int number, int acknowledgement) {
        String what = "6: hand kind " + kind + " number " + number + " acknowledgement " + acknowledgement;
        String before = state(x);
        due(what, x.hand(0, 1, kind, number, acknowledgement), false);
        due(what + " changes nothing", state(x), before);
    }

    private static void linkIsNotUp() {
        ChannelledLink down = new ChannelledLink();
        ChannelledLink setting = new ChannelledLink();
        setting.open(0);
        for (ChannelledLink x : new ChannelledLink[] {down, setting}) {
            refused("7: call, not UP", x, ILLEGAL, () -> x.call(0, 0));
            x.hand(0, 0, CALL, 0, 0);
            refused("8: accept, not UP", x, ILLEGAL, () -> x.accept(0, 0));
            refused("9: clear, not UP", x, ILLEGAL, () -> x.clear(0, 0));
            refused("10: reset, not UP", x, ILLEGAL, () -> x.reset(0, 0));
            refused("11: send, not UP", x, ILLEGAL, () -> x.send(0, 0, 0, false));
            refused("11: value first", x, ARGUMENT, () -> x.send(0, 0, -1, false));
            refused("12: receive, not UP", x, ILLEGAL, () -> x.receive(0, 0));
        }
    }
}
