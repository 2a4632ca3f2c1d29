import java.util.ArrayList;
import java.util.List;
import java.util.NoSuchElementException;

/**
 * A second reading of the document, made of objects and lists and written in the document's order, to run beside
 * the class. It shares no code with it.
 */
public final class Model {
    record Packet(int kind, int channel, int number, int acknowledgement, int value, boolean more) {
    }

    record Frame(int kind, int number, int acknowledgement, Packet packet) {
    }

    static final class Channel {
        String state = "IDLE";
        int next;
        int passed;
        int due;
        int taken;
        final List<Packet> row = new ArrayList<>();

        void renew() {
            next = passed = due = taken = 0;
            row.clear();
        }
    }

    static final class Station {
        String link = "DOWN";
        int sent;
        int acknowledged;
        int expected;
        int tries;
        boolean rejected;
        int carriers;
        List<Packet> out = new ArrayList<>();
        final List<Frame> line = new ArrayList<>();
        final Channel[] channels = {new Channel(), new Channel(), new Channel()};
    }

    private static final List<String> LINKS = List.of("DOWN", "SETTING", "UP");
    private static final List<String> STATES = List.of("IDLE", "CALLING", "CALLED", "OPEN", "CLEARING", "RESETTING");

    private final Station[] stations = {new Station(), new Station()};

    private static int mod(int n) {
        return Math.floorMod(n, 8);
    }

    private void sendFrame(int s, Frame frame) {
        if (frame.kind == 3) {
            stations[s].carriers++;
        }
        List<Frame> line = stations[1 - s].line;
        if (line.size() != 12) {
            line.add(frame);
        }
    }

    private void clean(int s) {
        Station t = stations[s];
        t.sent = t.acknowledged = t.expected = t.tries = 0;
        t.rejected = false;
        t.out.clear();
        for (Channel channel : t.channels) {
            channel.state = "IDLE";
            channel.renew();
        }
    }

    private void pump(int s) {
        Station t = stations[s];
        while (t.link.equals("UP") && t.out.size() > mod(t.sent - t.acknowledged) && mod(t.sent - t.acknowledged) < 3) {
            Packet first = t.out.get(mod(t.sent - t.acknowledged));
            sendFrame(s, new Frame(3, t.sent, t.expected, first));
            t.sent = mod(t.sent + 1);
        }
    }

    private void setUp(int s) {
        clean(s);
        stations[s].link = "SETTING";
        sendFrame(s, new Frame(1, 0, 0, null));
    }

    private void sendPacket(int s, Packet packet) {
        if (stations[s].out.size() < 16) {
            stations[s].out.add(packet);
        }
        pump(s);
    }

    private void sendPacket(int s, int kind, int c) {
        sendPacket(s, new Packet(kind, c, 0, 0, 0, false));
    }

    private void sendUnconfirmedAgain(int s) {
        Station t = stations[s];
        for (int n = t.acknowledged, k = 0; n != t.sent; n = mod(n + 1), k++) {
            sendFrame(s, new Frame(3, n, t.expected, t.out.get(k)));
        }
    }

    private void hear(int s, Frame frame) {
        Station t = stations[s];
        switch (frame.kind) {
            case 1 -> {
                if (!t.link.equals("SETTING")) {
                    clean(s);
                    t.link = "UP";
                }
                sendFrame(s, new Frame(2, 0, 0, null));
            }
            case 2 -> {
                if (t.link.equals("SETTING")) {
                    clean(s);
                    t.link = "UP";
                } else if (t.link.equals("UP")) {
                    setUp(s);
                }
            }
            default -> {
                if (t.link.equals("UP")) {
                    hearWhenUp(s, frame);
                }
            }
        }
    }

    private void hearWhenUp(int s, Frame frame) {
        Station t = stations[s];
        int carriersBefore = t.carriers;
        int many = mod(frame.acknowledgement - t.acknowledged);
        if (many <= mod(t.sent - t.acknowledged)) {
            t.out = new ArrayList<>(t.out.subList(many, t.out.size()));
            t.acknowledged = frame.acknowledgement;
            t.tries = many > 0 ? 0 : t.tries;
        }
        if (frame.kind == 4) {
            pump(s);
        }
        if (frame.kind == 5) {
            sendUnconfirmedAgain(s);
            pump(s);
        }
        if (frame.kind == 3 && frame.number == t.expected) {
            t.expected = mod(t.expected + 1);
            t.rejected = false;
            hear(s, frame.packet);
            if (t.carriers == carriersBefore) {
                pump(s);
                if (t.carriers == carriersBefore) {
                    sendFrame(s, new Frame(4, 0, t.expected, null));
                }
            }
        } else if (frame.kind == 3 && !t.rejected) {
            t.rejected = true;
            sendFrame(s, new Frame(5, 0, t.expected, null));
        }
    }

    private void hear(int s, Packet packet) {
        int c = packet.channel;
        Channel channel = stations[s].channels[c];
        String was = channel.state;
        switch (packet.kind + " " + was) {
            case "1 IDLE" -> channel.state = "CALLED";
            case "1 CALLING" -> channel.state = s == 1 ? "CALLED" : "CALLING";
            case "2 CALLING", "7 RESETTING" -> {
                channel.state = "OPEN";
                channel.renew();
            }
            case "3 CLEARING", "4 CLEARING" -> {
                channel.state = "IDLE";
                channel.renew();
            }
            case "3 CALLING", "3 CALLED", "3 OPEN", "3 RESETTING" -> {
                channel.state = "IDLE";
                channel.renew();
                sendPacket(s, 4, c);
            }
            case "5 OPEN", "6 OPEN" -> hearDataOrMove(s, packet);
            case "7 OPEN" -> {
                channel.renew();
                sendPacket(s, 8, c);
            }
            case "8 RESETTING" -> channel.state = "OPEN";
            default -> {
            }
        }
    }

    private void hearDataOrMove(int s, Packet packet) {
        Channel channel = stations[s].channels[packet.channel];
        if (mod(packet.acknowledgement - channel.passed) > mod(channel.next - channel.passed)) {
            fault(s, packet.channel);
            return;
        }
        channel.passed = packet.acknowledgement;
        if (packet.kind == 6) {
            return;
        }
        if (packet.number != channel.due || mod(channel.due - channel.taken) == 2) {
            fault(s, packet.channel);
            return;
        }
        channel.due = mod(channel.due + 1);
        channel.row.add(packet);
    }

    private void fault(int s, int c) {
        stations[s].channels[c].renew();
        stations[s].channels[c].state = "RESETTING";
        sendPacket(s, 7, c);
    }

    private void checkStation(int s) {
        if (s != 0 && s != 1) {
            throw new IndexOutOfBoundsException();
        }
    }

    private Channel checkChannel(int s, int c) {
        checkStation(s);
        if (c < 0 || c > 2) {
            throw new IndexOutOfBoundsException();
        }
        return stations[s].channels[c];
    }

    private void checkState(int s, boolean fits) {
        if (!stations[s].link.equals("UP") || stations[s].out.size() > 9 || !fits) {
            throw new IllegalStateException();
        }
    }

    public void open(int s) {
        checkStation(s);
        setUp(s);
    }

    public int expire(int s) {
        checkStation(s);
        Station t = stations[s];
        if (t.link.equals("DOWN") || t.link.equals("UP") && t.sent == t.acknowledged) {
            throw new IllegalStateException();
        }
        t.tries++;
        if (t.tries == 4) {
            if (t.link.equals("UP")) {
                setUp(s);
            } else {
                t.link = "DOWN";
                t.tries = 0;
            }
            return 4;
        }
        if (t.link.equals("UP")) {
            sendUnconfirmedAgain(s);
        } else {
            sendFrame(s, new Frame(1, 0, 0, null));
        }
        return t.tries;
    }

    public int deliver(int s) {
        checkStation(s);
        if (stations[s].line.isEmpty()) {
            throw new NoSuchElementException();
        }
        Frame frame = stations[s].line.remove(0);
        hear(s, frame);
        return frame.kind;
    }

    public int lose(int s) {
        checkStation(s);
        if (stations[s].line.isEmpty()) {
            throw new NoSuchElementException();
        }
        return stations[s].line.remove(0).kind;
    }

    public boolean hand(int s, int c, int kind, int number, int acknowledgement) {
        checkChannel(s, c);
        if (kind < 1 || kind > 8 || mod(number) != number || mod(acknowledgement) != acknowledgement) {
            return false;
        }
        hear(s, new Packet(kind, c, number, acknowledgement, 0, false));
        return true;
    }

    public void call(int s, int c) {
        Channel channel = checkChannel(s, c);
        checkState(s, channel.state.equals("IDLE"));
        sendPacket(s, 1, c);
        channel.state = "CALLING";
    }

    public void accept(int s, int c) {
        Channel channel = checkChannel(s, c);
        checkState(s, channel.state.equals("CALLED"));
        sendPacket(s, 2, c);
        channel.renew();
        channel.state = "OPEN";
    }

    public void clear(int s, int c) {
        Channel channel = checkChannel(s, c);
        checkState(s, !channel.state.equals("IDLE") && !channel.state.equals("CLEARING"));
        sendPacket(s, 3, c);
        channel.renew();
        channel.state = "CLEARING";
    }

    public void reset(int s, int c) {
        Channel channel = checkChannel(s, c);
        checkState(s, channel.state.equals("OPEN"));
        sendPacket(s, 7, c);
        channel.renew();
        channel.state = "RESETTING";
    }

    public boolean send(int s, int c, int value, boolean more) {
        Channel channel = checkChannel(s, c);
        if (value < 0 || value > 255) {
            throw new IllegalArgumentException();
        }
        checkState(s, channel.state.equals("OPEN"));
        if (mod(channel.next - channel.passed) == 2) {
            return false;
        }
        sendPacket(s, new Packet(5, c, channel.next, channel.taken, value, more));
        channel.next = mod(channel.next + 1);
        return true;
    }

    public int receive(int s, int c) {
        Channel channel = checkChannel(s, c);
        checkState(s, channel.state.equals("OPEN"));
        if (channel.row.isEmpty()) {
            throw new NoSuchElementException();
        }
        Packet first = channel.row.remove(0);
        channel.taken = mod(channel.taken + 1);
        sendPacket(s, new Packet(6, c, 0, channel.taken, 0, false));
        return data(first);
    }

    private static int data(Packet packet) {
        return packet.value + (packet.more ? 256 : 0);
    }

    /** The whole state, in the form of Checks.state. */
    String state() {
        StringBuilder text = new StringBuilder();
        for (int s = 0; s < 2; s++) {
            Station t = stations[s];
            text.append("station " + s + ": " + LINKS.indexOf(t.link) + " " + t.sent + " " + t.acknowledged + " "
                    + t.expected + " " + t.tries + " " + (t.rejected ? 1 : 0) + " " + t.out.size() + " " + t.line.size());
            for (Channel channel : t.channels) {
                text.append(" | " + STATES.indexOf(channel.state) + " " + channel.next + " " + channel.passed + " "
                        + channel.due + " " + channel.taken + " " + (channel.row.isEmpty() ? -1 : data(channel.row.get(0))));
            }
            text.append(" | ");
            for (Frame frame : t.line) {
                Packet packet = frame.packet == null ? new Packet(0, 0, 0, 0, 0, false) : frame.packet;
                text.append("[" + frame.kind + " " + frame.number + " " + frame.acknowledgement + " " + packet.kind + " "
                        + packet.channel + " " + packet.number + " " + packet.acknowledgement + " " + data(packet) + "]");
            }
            text.append("\n");
        }
        return text.toString();
    }
}
