/** Stations and channels that are not there, links that are not UP, and packets that cannot be handed. */
public final class RefusalTest {
    private static final int[] NO_STATIONS = {-1, 2, 3, Integer.MIN_VALUE, Integer.MAX_VALUE};
    private static final int[] NO_CHANNELS = {-1, 3, 4, Integer.MIN_VALUE, Integer.MAX_VALUE};

    public static void main(String[] args) {
        for (ChannelledLink x : new ChannelledLink[] {new ChannelledLink(), Checks.up(), Checks.opened(1)}) {
            for (int s : NO_STATIONS) {
                noSuchStation(x, s);
                noSuchPlace(x, s, 0);
            }
            for (int c : NO_CHANNELS) {
                noSuchPlace(x, 0, c);
                noSuchPlace(x, 1, c);
            }
            cannotBeHanded(x);
        }
        linkIsNotUp();
        Checks.finish();
    }

    private static void noSuchStation(ChannelledLink x, int s) {
        Checks.refused("2: open " + s, x, Checks.INDEX, () -> x.open(s));
        Checks.refused("3: expire " + s, x, Checks.INDEX, () -> x.expire(s));
        Checks.refused("4: deliver " + s, x, Checks.INDEX, () -> x.deliver(s));
        Checks.refused("5: lose " + s, x, Checks.INDEX, () -> x.lose(s));
        Checks.refused("13: link " + s, x, Checks.INDEX, () -> x.link(s, 0));
        Checks.refused("13: link before what " + s, x, Checks.INDEX, () -> x.link(s, -1));
        Checks.refused("15: frame " + s, x, Checks.INDEX, () -> x.frame(s, 0, 0));
        Checks.refused("15: frame before k and what " + s, x, Checks.INDEX, () -> x.frame(s, -1, -1));
    }

    private static void noSuchPlace(ChannelledLink x, int s, int c) {
        String place = " " + s + " " + c;
        Checks.refused("6: hand" + place, x, Checks.INDEX, () -> x.hand(s, c, Checks.CALL, 0, 0));
        Checks.refused("6: hand before false" + place, x, Checks.INDEX, () -> x.hand(s, c, 0, 8, -1));
        Checks.refused("7: call" + place, x, Checks.INDEX, () -> x.call(s, c));
        Checks.refused("8: accept" + place, x, Checks.INDEX, () -> x.accept(s, c));
        Checks.refused("9: clear" + place, x, Checks.INDEX, () -> x.clear(s, c));
        Checks.refused("10: reset" + place, x, Checks.INDEX, () -> x.reset(s, c));
        Checks.refused("11: send" + place, x, Checks.INDEX, () -> x.send(s, c, 0, false));
        Checks.refused("11: send before value" + place, x, Checks.INDEX, () -> x.send(s, c, 256, false));
        Checks.refused("12: receive" + place, x, Checks.INDEX, () -> x.receive(s, c));
        Checks.refused("14: channel" + place, x, Checks.INDEX, () -> x.channel(s, c, 0));
        Checks.refused("14: channel before what" + place, x, Checks.INDEX, () -> x.channel(s, c, -1));
        Checks.refused("16: peek" + place, x, Checks.INDEX, () -> x.peek(s, c));
    }

    private static void cannotBeHanded(ChannelledLink x) {
        for (int kind : new int[] {-1, 0, 9, 16, 17, Integer.MIN_VALUE, Integer.MAX_VALUE}) {
            notHanded(x, kind, 0, 0);
        }
        for (int number : new int[] {-1, 8, 9, Integer.MIN_VALUE, Integer.MAX_VALUE}) {
            for (int kind = 1; kind <= 8; kind++) {
                notHanded(x, kind, number, 0);
                notHanded(x, kind, 0, number);
            }
        }
    }

    private static void notHanded(ChannelledLink x, int kind, int number, int acknowledgement) {
        String what = "6: hand kind " + kind + " number " + number + " acknowledgement " + acknowledgement;
        String before = Checks.state(x);
        Checks.due(what, x.hand(0, 1, kind, number, acknowledgement), false);
        Checks.due(what + " changes nothing", Checks.state(x), before);
    }

    private static void linkIsNotUp() {
        ChannelledLink down = new ChannelledLink();
        ChannelledLink setting = new ChannelledLink();
        setting.open(0);
        for (ChannelledLink x : new ChannelledLink[] {down, setting}) {
            Checks.refused("7: call, not UP", x, Checks.ILLEGAL, () -> x.call(0, 0));
            x.hand(0, 0, Checks.CALL, 0, 0);
            Checks.refused("8: accept, not UP", x, Checks.ILLEGAL, () -> x.accept(0, 0));
            Checks.refused("9: clear, not UP", x, Checks.ILLEGAL, () -> x.clear(0, 0));
            Checks.refused("10: reset, not UP", x, Checks.ILLEGAL, () -> x.reset(0, 0));
            Checks.refused("11: send, not UP", x, Checks.ILLEGAL, () -> x.send(0, 0, 0, false));
            Checks.refused("11: value first", x, Checks.ARGUMENT, () -> x.send(0, 0, -1, false));
            Checks.refused("12: receive, not UP", x, Checks.ILLEGAL, () -> x.receive(0, 0));
        }
    }
}
