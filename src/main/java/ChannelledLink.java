import java.util.NoSuchElementException;

/**
 * Two stations that send one another packets on three channels, over a line that may lose frames.
 */
public final class ChannelledLink {
    private static final int STATIONS = 2;
    private static final int CHANNELS = 3;
    private static final int LINE_ROOM = 12;
    private static final int OUT_ROOM = 16;
    private static final int OUT_LIMIT_FOR_CALLS = 9;
    private static final int LINK_WINDOW = 3;
    private static final int CHANNEL_WINDOW = 2;
    private static final int LAST_TRY = 4;
    private static final int LAST_NUMBER = 7;
    private static final int LAST_VALUE = 255;
    private static final int MORE = 256;
    private static final int NOTHING = -1;

    private final Station[] stations;

    public ChannelledLink() {
        Row lineOfZero = new Row(LINE_ROOM);
        Row lineOfOne = new Row(LINE_ROOM);
        stations = new Station[STATIONS];
        stations[0] = new Station(false, lineOfZero, lineOfOne);
        stations[1] = new Station(true, lineOfOne, lineOfZero);
    }

    public void open(int s) throws IndexOutOfBoundsException {
        stationAt(s).setUp();
    }

    public int expire(int s) throws IndexOutOfBoundsException, IllegalStateException {
        Station station = stationAt(s);
        requireState(station.waitsForAnswer());
        return station.tryAgain();
    }

    public int deliver(int s) throws IndexOutOfBoundsException, NoSuchElementException {
        Station station = stationAt(s);
        int frame = takeFrame(station.line);
        station.hearFrame(frame);
        return Frame.kindOf(frame);
    }

    public int lose(int s) throws IndexOutOfBoundsException, NoSuchElementException {
        return Frame.kindOf(takeFrame(stationAt(s).line));
    }

    public boolean hand(int s, int c, int kind, int number, int acknowledgement) throws IndexOutOfBoundsException {
        Station station = stationAt(s);
        requireChannel(c);
        if (kind < Packet.CALL || kind > Packet.RENEWED || !isNumber(number) || !isNumber(acknowledgement)) {
            return false;
        }
        station.hearPacket(Packet.of(kind, c, number, acknowledgement, 0));
        return true;
    }

    public void call(int s, int c) throws IndexOutOfBoundsException, IllegalStateException {
        Station station = stationAt(s);
        Channel channel = channelAt(station, c);
        requireState(station.takesCalls() && channel.state == Channel.IDLE);
        channel.renewAs(Channel.CALLING);
        station.sendPacket(Packet.bare(Packet.CALL, c));
    }

    public void accept(int s, int c) throws IndexOutOfBoundsException, IllegalStateException {
        Station station = stationAt(s);
        Channel channel = channelAt(station, c);
        requireState(station.takesCalls() && channel.state == Channel.CALLED);
        channel.renewAs(Channel.OPEN);
        station.sendPacket(Packet.bare(Packet.ACCEPT, c));
    }

    public void clear(int s, int c) throws IndexOutOfBoundsException, IllegalStateException {
        Station station = stationAt(s);
        Channel channel = channelAt(station, c);
        boolean inUse = channel.state != Channel.IDLE && channel.state != Channel.CLEARING;
        requireState(station.takesCalls() && inUse);
        channel.renewAs(Channel.CLEARING);
        station.sendPacket(Packet.bare(Packet.CLEAR, c));
    }

    public void reset(int s, int c) throws IndexOutOfBoundsException, IllegalStateException {
        Station station = stationAt(s);
        Channel channel = channelAt(station, c);
        requireState(station.takesCalls() && channel.state == Channel.OPEN);
        channel.renewAs(Channel.RESETTING);
        station.sendPacket(Packet.bare(Packet.RESET, c));
    }

    public boolean send(int s, int c, int value, boolean more)
            throws IndexOutOfBoundsException, IllegalArgumentException, IllegalStateException {
        Station station = stationAt(s);
        Channel channel = channelAt(station, c);
        requireValue(value);
        requireState(station.takesCalls() && channel.state == Channel.OPEN);
        if (distance(channel.passed, channel.next) >= CHANNEL_WINDOW) {
            return false;
        }
        int data = more ? value + MORE : value;
        int packet = Packet.of(Packet.DATA, c, channel.next, channel.taken, data);
        channel.next = after(channel.next);
        station.sendPacket(packet);
        return true;
    }

    public int receive(int s, int c) throws IndexOutOfBoundsException, IllegalStateException, NoSuchElementException {
        Station station = stationAt(s);
        Channel channel = channelAt(station, c);
        requireState(station.takesCalls() && channel.state == Channel.OPEN);
        requireElement(channel.data);
        int data = channel.takeData();
        station.sendPacket(Packet.of(Packet.MOVE, c, 0, channel.taken, 0));
        return data;
    }

    public int link(int s, int what) throws IndexOutOfBoundsException {
        Station station = stationAt(s);
        switch (what) {
            case 0: return station.link;
            case 1: return station.sent;
            case 2: return station.acknowledged;
            case 3: return station.expected;
            case 4: return station.tries;
            case 5: return station.rejected ? 1 : 0;
            case 6: return station.out.count;
            case 7: return station.line.count;
            default: return NOTHING;
        }
    }

    public int channel(int s, int c, int what) throws IndexOutOfBoundsException {
        Channel channel = channelAt(stationAt(s), c);
        switch (what) {
            case 0: return channel.state;
            case 1: return channel.next;
            case 2: return channel.passed;
            case 3: return channel.due;
            case 4: return channel.taken;
            default: return NOTHING;
        }
    }

    public int frame(int s, int k, int what) throws IndexOutOfBoundsException {
        Row line = stationAt(s).line;
        if (k < 0 || k >= line.count) {
            return NOTHING;
        }
        int frame = line.at(k);
        int packet = Frame.packetOf(frame);
        switch (what) {
            case 0: return Frame.kindOf(frame);
            case 1: return Frame.numberOf(frame);
            case 2: return Frame.acknowledgementOf(frame);
            case 3: return Packet.kindOf(packet);
            case 4: return Packet.channelOf(packet);
            case 5: return Packet.numberOf(packet);
            case 6: return Packet.acknowledgementOf(packet);
            case 7: return Packet.dataOf(packet);
            default: return NOTHING;
        }
    }

    public int peek(int s, int c) throws IndexOutOfBoundsException {
        Row data = channelAt(stationAt(s), c).data;
        return data.count == 0 ? NOTHING : data.at(0);
    }

    private Station stationAt(int s) {
        if (s < 0 || s >= STATIONS) {
            throw new IndexOutOfBoundsException("no such station");
        }
        return stations[s];
    }

    private static Channel channelAt(Station station, int c) {
        requireChannel(c);
        return station.channels[c];
    }

    private static void requireChannel(int c) {
        if (!isChannel(c)) {
            throw new IndexOutOfBoundsException("no such channel");
        }
    }

    private static void requireValue(int value) {
        if (value < 0 || value > LAST_VALUE) {
            throw new IllegalArgumentException("a value is 0 .. 255");
        }
    }

    private static void requireState(boolean fits) {
        if (!fits) {
            throw new IllegalStateException("not in this state");
        }
    }

    private static void requireElement(Row row) {
        if (row.count == 0) {
            throw new NoSuchElementException("nothing is there");
        }
    }

    private static int takeFrame(Row line) {
        requireElement(line);
        int frame = line.at(0);
        line.drop(1);
        return frame;
    }

    private static boolean isChannel(int c) {
        return c >= 0 && c < CHANNELS;
    }

    private static boolean isNumber(int number) {
        return number >= 0 && number <= LAST_NUMBER;
    }

    // There are 8 numbers, a power of two: a mask brings sums and differences back among them.
    private static int after(int number) {
        return (number + 1) & LAST_NUMBER;
    }

    private static int distance(int from, int to) {
        return (to - from) & LAST_NUMBER;
    }

    /** A row of ints in a room made once; what is put behind a full row is lost, as the document asks. */
    private static final class Row {
        private final int[] places;
        private int count;

        Row(int room) {
            places = new int[room];
            count = 0;
        }

        void add(int element) {
            if (count < places.length) {
                places[count] = element;
                count++;
            }
        }

        int at(int k) {
            return k >= 0 && k < count ? places[k] : 0;
        }

        void drop(int many) {
            if (many < 0 || many > count) {
                return;
            }
            System.arraycopy(places, many, places, 0, count - many);
            count -= many;
        }
    }

    /**
     * A packet is kept in the lower 21 bits of one int, so that a copy on the line never changes with
     * its original and no call makes an object: data 9 bits, acknowledgement 3, number 3, channel 2, kind 4.
     */
    private static final class Packet {
        private static final int NONE = 0;
        private static final int CALL = 1;
        private static final int ACCEPT = 2;
        private static final int CLEAR = 3;
        private static final int CLEARED = 4;
        private static final int DATA = 5;
        private static final int MOVE = 6;
        private static final int RESET = 7;
        private static final int RENEWED = 8;

        private static int of(int kind, int channel, int number, int acknowledgement, int data) {
            return kind << 17 | channel << 15 | number << 12 | acknowledgement << 9 | data;
        }

        private static int bare(int kind, int channel) {
            return of(kind, channel, 0, 0, 0);
        }

        private static int kindOf(int packet) {
            return packet >> 17 & 15;
        }

        private static int channelOf(int packet) {
            return packet >> 15 & 3;
        }

        private static int numberOf(int packet) {
            return packet >> 12 & 7;
        }

        private static int acknowledgementOf(int packet) {
            return packet >> 9 & 7;
        }

        /** The value, and 256 more when there is more. */
        private static int dataOf(int packet) {
            return packet & 511;
        }
    }

    /** A frame is one int too: its packet 21 bits, acknowledgement 3, number 3, kind 3. */
    private static final class Frame {
        private static final int SETUP = 1;
        private static final int AGREED = 2;
        private static final int CARRIER = 3;
        private static final int READY = 4;
        private static final int REJECT = 5;

        private static int of(int kind, int number, int acknowledgement, int packet) {
            return kind << 27 | number << 24 | acknowledgement << 21 | packet;
        }

        private static int kindOf(int frame) {
            return frame >> 27 & 7;
        }

        private static int numberOf(int frame) {
            return frame >> 24 & 7;
        }

        private static int acknowledgementOf(int frame) {
            return frame >> 21 & 7;
        }

        private static int packetOf(int frame) {
            return frame & 0x1FFFFF;
        }
    }

    /** One station's end of a channel. */
    private static final class Channel {
        private static final int IDLE = 0;
        private static final int CALLING = 1;
        private static final int CALLED = 2;
        private static final int OPEN = 3;
        private static final int CLEARING = 4;
        private static final int RESETTING = 5;

        private final boolean yields;
        private final Row data;
        private int state;
        private int next;
        private int passed;
        private int due;
        private int taken;

        /** Of two calls that cross, the one of the station that yields gives way. */
        Channel(boolean yields) {
            this.yields = yields;
            data = new Row(CHANNEL_WINDOW);
            state = IDLE;
        }

        void renewAs(int newState) {
            state = newState;
            next = 0;
            passed = 0;
            due = 0;
            taken = 0;
            data.count = 0;
        }

        int takeData() {
            int first = data.at(0);
            data.drop(1);
            taken = after(taken);
            return first;
        }

        /** Answers the kind of the packet that is to be sent back, Packet.NONE if there is none. */
        int answerTo(int packet) {
            switch (Packet.kindOf(packet)) {
                case Packet.CALL: return answerToCall();
                case Packet.ACCEPT: return renewFrom(CALLING, OPEN);
                case Packet.CLEAR: return answerToClear();
                case Packet.CLEARED: return renewFrom(CLEARING, IDLE);
                case Packet.DATA:
                case Packet.MOVE: return answerToFlow(packet);
                case Packet.RESET: return answerToReset();
                case Packet.RENEWED: return renewFrom(RESETTING, OPEN);
                default: return Packet.NONE;
            }
        }

        private int renewFrom(int oldState, int newState) {
            if (state == oldState) {
                renewAs(newState);
            }
            return Packet.NONE;
        }

        private int answerToCall() {
            if (state == IDLE || state == CALLING && yields) {
                renewAs(CALLED);
            }
            return Packet.NONE;
        }

        private int answerToClear() {
            boolean answered = state != IDLE && state != CLEARING;
            renewAs(IDLE);
            return answered ? Packet.CLEARED : Packet.NONE;
        }

        private int answerToReset() {
            boolean answered = state == OPEN;
            if (answered || state == RESETTING) {
                renewAs(OPEN);
            }
            return answered ? Packet.RENEWED : Packet.NONE;
        }

        private int answerToFlow(int packet) {
            if (state != OPEN) {
                return Packet.NONE;
            }
            boolean isData = Packet.kindOf(packet) == Packet.DATA;
            int acknowledgement = Packet.acknowledgementOf(packet);
            boolean fault = distance(passed, acknowledgement) > distance(passed, next);
            if (isData) {
                fault = fault || Packet.numberOf(packet) != due || data.count >= CHANNEL_WINDOW;
            }
            if (fault) {
                renewAs(RESETTING);
                return Packet.RESET;
            }
            passed = acknowledgement;
            if (isData) {
                data.add(Packet.dataOf(packet));
                due = after(due);
            }
            return Packet.NONE;
        }
    }

    /** One station: its link, its channels, and the lines to it and to its peer. */
    private static final class Station {
        private static final int DOWN = 0;
        private static final int SETTING = 1;
        private static final int UP = 2;

        private final Row line;
        private final Row lineOfPeer;
        private final Row out;
        private final Channel[] channels;
        private int link;
        private int sent;
        private int acknowledged;
        private int expected;
        private int tries;
        private boolean rejected;

        Station(boolean yields, Row line, Row lineOfPeer) {
            this.line = line;
            this.lineOfPeer = lineOfPeer;
            out = new Row(OUT_ROOM);
            channels = new Channel[CHANNELS];
            for (int c = 0; c < CHANNELS; c++) {
                channels[c] = new Channel(yields);
            }
            link = DOWN;
        }

        void setUp() {
            cleanAs(SETTING);
            sendUnnumbered(Frame.SETUP);
        }

        boolean waitsForAnswer() {
            return link == SETTING || link == UP && unconfirmed() > 0;
        }

        boolean takesCalls() {
            return link == UP && out.count <= OUT_LIMIT_FOR_CALLS;
        }

        /** Answers what tries grew to, though giving up sets them to 0 again. */
        int tryAgain() {
            int grown = tries + 1;
            tries = grown;
            if (grown >= LAST_TRY) {
                giveUp();
            } else if (link == SETTING) {
                sendUnnumbered(Frame.SETUP);
            } else {
                sendUnconfirmed();
            }
            return grown;
        }

        private void giveUp() {
            if (link == SETTING) {
                link = DOWN;
                tries = 0;
            } else {
                setUp();
            }
        }

        void hearFrame(int frame) {
            int kind = Frame.kindOf(frame);
            if (kind == Frame.SETUP) {
                hearSetup();
            } else if (kind == Frame.AGREED) {
                hearAgreed();
            } else if (link == UP) {
                confirm(Frame.acknowledgementOf(frame));
                if (kind == Frame.CARRIER) {
                    hearCarrier(frame);
                } else if (kind == Frame.REJECT) {
                    sendUnconfirmed();
                    pump();
                } else {
                    pump();
                }
            }
        }

        private void hearSetup() {
            if (link != SETTING) {
                cleanAs(UP);
            }
            sendUnnumbered(Frame.AGREED);
        }

        private void hearAgreed() {
            if (link == SETTING) {
                cleanAs(UP);
            } else if (link == UP) {
                setUp();
            }
        }

        private void confirm(int acknowledgement) {
            int many = distance(acknowledged, acknowledgement);
            if (many > 0 && many <= unconfirmed()) {
                out.drop(many);
                acknowledged = acknowledgement;
                tries = 0;
            }
        }

        private void hearCarrier(int frame) {
            if (Frame.numberOf(frame) != expected) {
                rejectOnce();
                return;
            }
            expected = after(expected);
            rejected = false;
            // The number sent grows with each new CARRIER, even with one that the line loses.
            int sentBefore = sent;
            hearPacket(Frame.packetOf(frame));
            if (sent == sentBefore) {
                pump();
            }
            if (sent == sentBefore) {
                sendAcknowledging(Frame.READY);
            }
        }

        private void rejectOnce() {
            if (!rejected) {
                rejected = true;
                sendAcknowledging(Frame.REJECT);
            }
        }

        void hearPacket(int packet) {
            int c = Packet.channelOf(packet);
            if (!isChannel(c)) {
                return;
            }
            int answer = channels[c].answerTo(packet);
            if (answer != Packet.NONE) {
                sendPacket(Packet.bare(answer, c));
            }
        }

        void sendPacket(int packet) {
            out.add(packet);
            pump();
        }

        private void pump() {
            int end = link == UP ? Math.min(out.count, LINK_WINDOW) : 0;
            for (int place = unconfirmed(); place < end; place++) {
                lineOfPeer.add(Frame.of(Frame.CARRIER, sent, expected, out.at(place)));
                sent = after(sent);
            }
        }

        private void sendUnconfirmed() {
            int end = unconfirmed();
            int number = acknowledged;
            for (int place = 0; place < end; place++) {
                lineOfPeer.add(Frame.of(Frame.CARRIER, number, expected, out.at(place)));
                number = after(number);
            }
        }

        private void sendUnnumbered(int kind) {
            lineOfPeer.add(Frame.of(kind, 0, 0, Packet.NONE));
        }

        private void sendAcknowledging(int kind) {
            lineOfPeer.add(Frame.of(kind, 0, expected, Packet.NONE));
        }

        private int unconfirmed() {
            return (sent - acknowledged) & LAST_NUMBER;
        }

        private void cleanAs(int newLink) {
            link = newLink;
            sent = 0;
            acknowledged = 0;
            expected = 0;
            tries = 0;
            rejected = false;
            out.count = 0;
            for (int c = 0; c < CHANNELS; c++) {
                channels[c].renewAs(Channel.IDLE);
            }
        }
    }
}
