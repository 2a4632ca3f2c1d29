/** The sentence of the numbers that go on by 8: each number's step from 7 to 0, each difference over that step. */
public final class NumbersTest extends Checks {
    private static final String GO_ON = "All NUMBERS (of frames and of data) are 0 .. 7 and go on by 8";
    private static final String DIFFERENCES = "what is said of sums and differences of them is meant so";

    public static void main(String[] args) {
        sentence(GO_ON);
        sentGoesOn();
        acknowledgedGoesOn();
        expectedGoesOn();
        nextGoesOn();
        passedGoesOn();
        dueGoesOn();
        takenGoesOn();
        sentence(DIFFERENCES);
        threeAreUnconfirmedOverTheEnd();
        unconfirmedAreSentAgainByExpireOverTheEnd();
        unconfirmedAreSentAgainByRejectOverTheEnd();
        someAreConfirmedOverTheEnd();
        anOlderAcknowledgementIsFarAhead();
        anAcknowledgementOfZeroMayBeFarAhead();
        aFrameBehindExpectedOverTheEnd();
        aFrameBeforeExpectedOverTheEnd();
        twoDataAreOnTheirWayOverTheEnd();
        dataAreAcknowledgedOverTheEnd();
        twoDataAreNotTakenOverTheEnd();
        finish();
    }

    private static void sentGoesOn() {
        ChannelledLink x = up();
        goOn(x, 7);
        fillOut(x, 0, 0, 2);
        due("frames 7 and 0", line(x, 1), "[3 7 0 4 0 0 0 0][3 0 0 4 0 0 0 0]");
        due("sent", x.link(0, SENT), 1);
        ChannelledLink y = up();
        goOn(y, 7);
        fillOut(y, 0, 0, 1);
        due("sent behind 7", link(y, 0), "2 0 7 0 0 0 1 0");
    }

    private static void acknowledgedGoesOn() {
        ChannelledLink x = up();
        goOn(x, 7);
        due("acknowledged", x.link(0, ACKNOWLEDGED), 7);
        goOn(x, 1);
        due("acknowledged behind 7", link(x, 0), "2 0 0 0 0 0 0 0");
        goOn(x, 1);
        due("and on", link(x, 0), "2 1 1 0 0 0 0 0");
    }

    private static void expectedGoesOn() {
        ChannelledLink x = up();
        goOn(x, 7);
        due("expected", x.link(1, EXPECTED), 7);
        fillOut(x, 0, 0, 2);
        x.deliver(1);
        due("expected behind 7", x.link(1, EXPECTED), 0);
        due("READY with 0", line(x, 0), "[4 0 0 0 0 0 0 0]");
        x.deliver(1);
        due("frame 0 is heard behind frame 7", link(x, 1), "2 0 0 1 0 0 0 0");
    }

    /** Data go from station 0 to station 1 and are taken there, one by one: all numbers of channel 1 go on. */
    private static ChannelledLink afterData(int many) {
        ChannelledLink x = opened(1);
        for (int turn = 0; turn < many; turn++) {
            x.send(0, 1, turn, false);
            drain(x);
            x.receive(1, 1);
            drain(x);
        }
        return x;
    }

    private static void nextGoesOn() {
        ChannelledLink x = afterData(7);
        due("next", x.channel(0, 1, NEXT), 7);
        x.send(0, 1, 70, false);
        due("next behind 7", channel(x, 0, 1), "3 0 7 0 0 -1");
        due("DATA 7", x.frame(1, 0, 5), 7);
        x.send(0, 1, 71, false);
        due("DATA 0", x.frame(1, 1, 5), 0);
    }

    private static void passedGoesOn() {
        ChannelledLink x = afterData(7);
        due("passed", x.channel(0, 1, PASSED), 7);
        x.send(0, 1, 70, false);
        x.hand(0, 1, MOVE, 0, 0);
        due("passed behind 7", channel(x, 0, 1), "3 0 0 0 0 -1");
    }

    private static void dueGoesOn() {
        ChannelledLink x = afterData(7);
        due("due", x.channel(1, 1, DUE), 7);
        x.send(0, 1, 70, false);
        x.send(0, 1, 71, true);
        x.deliver(1);
        due("due behind 7", channel(x, 1, 1), "3 0 0 0 7 70");
        x.deliver(1);
        due("DATA 0 is heard behind DATA 7", channel(x, 1, 1), "3 0 0 1 7 70");
    }

    private static void takenGoesOn() {
        ChannelledLink x = afterData(7);
        due("taken", x.channel(1, 1, TAKEN), 7);
        x.send(0, 1, 70, false);
        drain(x);
        x.receive(1, 1);
        due("taken behind 7", channel(x, 1, 1), "3 0 0 0 0 -1");
        due("MOVE with 0", x.frame(0, 0, 6), 0);
        x.send(1, 1, 9, false);
        due("DATA with 0", x.frame(0, 1, 6), 0);
    }

    private static void threeAreUnconfirmedOverTheEnd() {
        for (int first = 5; first <= 7; first++) {
            ChannelledLink x = up();
            goOn(x, first);
            fillOut(x, 0, 0, 5);
            String sent = "2 " + (first + 3) % 8 + " " + first;
            due("three of five from " + first, link(x, 0), sent + " 0 0 0 5 0");
            due("frames from " + first, line(x, 1), carriers(first, 3));
        }
    }

    /** So many CARRIERS with CLEARED on channel 0, numbered from the first. */
    private static String carriers(int first, int many) {
        StringBuilder text = new StringBuilder();
        for (int k = 0; k < many; k++) {
            text.append("[3 ").append((first + k) % 8).append(" 0 4 0 0 0 0]");
        }
        return text.toString();
    }

    private static void unconfirmedAreSentAgainByExpireOverTheEnd() {
        for (int first = 5; first <= 7; first++) {
            ChannelledLink x = up();
            goOn(x, first);
            fillOut(x, 0, 0, 4);
            loseAll(x, 1);
            x.expire(0);
            due("three again from " + first, line(x, 1), carriers(first, 3));
        }
    }

    private static void unconfirmedAreSentAgainByRejectOverTheEnd() {
        for (int first = 5; first <= 7; first++) {
            ChannelledLink x = up();
            goOn(x, first);
            fillOut(x, 0, 0, 3);
            x.lose(1);
            x.deliver(1);
            x.lose(1);
            due("REJECT from " + first, line(x, 0), "[5 0 " + first + " 0 0 0 0 0]");
            x.deliver(0);
            due("three again from " + first, line(x, 1), carriers(first, 3));
        }
    }

    private static void someAreConfirmedOverTheEnd() {
        for (int first = 5; first <= 7; first++) {
            for (int heard = 1; heard <= 3; heard++) {
                ChannelledLink x = up();
                goOn(x, first);
                fillOut(x, 0, 0, 3);
                for (int turn = 0; turn < heard; turn++) {
                    loseAll(x, 0);
                    x.deliver(1);
                }
                x.deliver(0);
                String want = "2 " + (first + 3) % 8 + " " + (first + heard) % 8 + " 0 0 0 " + (3 - heard) + " 0";
                due(heard + " confirmed from " + first, link(x, 0), want);
            }
        }
    }

    /**
     * Station 0 had three packets confirmed by READY of an earlier life, and three more are unconfirmed; the CARRIERS
     * 0 to 5 are under way to station 1, which was cleaned.
     */
    private static ChannelledLink aheadOfThePeer() {
        ChannelledLink x = withReadiesOfAnEarlierLife();
        fillOut(x, 0, 0, 6);
        for (int turn = 0; turn < 3; turn++) {
            x.deliver(0);
        }
        x.deliver(1);
        due("AGREED", x.lose(0), AGREED);
        due("ahead", link(x, 0), "2 6 3 0 0 0 3 0");
        due("the peer is clean", link(x, 1), "2" + CLEAN + " 6");
        return x;
    }

    private static void anOlderAcknowledgementIsFarAhead() {
        ChannelledLink x = aheadOfThePeer();
        x.deliver(1);
        due("READY with 1", line(x, 0), "[4 0 1 0 0 0 0 0]");
        x.deliver(0);
        due("1 - 3 is 6, more than 6 - 3", link(x, 0), "2 6 3 0 0 0 3 0");
    }

    private static void anAcknowledgementOfZeroMayBeFarAhead() {
        ChannelledLink x = aheadOfThePeer();
        x.lose(1);
        x.lose(1);
        x.lose(1);
        x.deliver(1);
        loseAll(x, 1);
        due("REJECT with 0", line(x, 0), "[5 0 0 0 0 0 0 0]");
        x.deliver(0);
        due("0 - 3 is 5, more than 6 - 3", link(x, 0), "2 6 3 0 0 0 3 0");
        due("three again", line(x, 1), carriers(3, 3));
    }

    private static void aFrameBehindExpectedOverTheEnd() {
        ChannelledLink x = up();
        goOn(x, 7);
        fillOut(x, 0, 0, 1);
        x.expire(0);
        x.deliver(1);
        x.lose(0);
        due("7 again", x.frame(1, 0, 1), 7);
        x.deliver(1);
        due("7 is not 0", link(x, 1), "2 0 0 0 0 1 0 0");
        due("REJECT with 0", line(x, 0), "[5 0 0 0 0 0 0 0]");
    }

    private static void aFrameBeforeExpectedOverTheEnd() {
        ChannelledLink x = up();
        goOn(x, 7);
        fillOut(x, 0, 0, 2);
        x.lose(1);
        x.deliver(1);
        due("0 is not 7", link(x, 1), "2 0 0 7 0 1 0 0");
        due("REJECT with 7", line(x, 0), "[5 0 7 0 0 0 0 0]");
    }

    private static void twoDataAreOnTheirWayOverTheEnd() {
        for (int first = 6; first <= 7; first++) {
            ChannelledLink x = afterData(first);
            due("first from " + first, x.send(0, 1, 1, false), true);
            due("second from " + first, x.send(0, 1, 2, false), true);
            due("third from " + first, x.send(0, 1, 3, false), false);
            due("numbers from " + first, channel(x, 0, 1), "3 " + (first + 2) % 8 + " " + first + " 0 0 -1");
        }
    }

    private static void dataAreAcknowledgedOverTheEnd() {
        for (int acknowledgement = 0; acknowledgement <= 7; acknowledgement++) {
            ChannelledLink x = afterData(7);
            x.send(0, 1, 1, false);
            x.send(0, 1, 2, false);
            x.hand(0, 1, MOVE, 0, acknowledgement);
            boolean fits = acknowledgement == 7 || acknowledgement == 0 || acknowledgement == 1;
            due("passed 7, next 1, MOVE with " + acknowledgement, channel(x, 0, 1),
                    fits ? "3 1 " + acknowledgement + " 0 0 -1" : "5 0 0 0 0 -1");
        }
    }

    private static void twoDataAreNotTakenOverTheEnd() {
        for (int first = 6; first <= 7; first++) {
            ChannelledLink x = afterData(first);
            x.hand(1, 1, DATA, first, 0);
            x.hand(1, 1, DATA, (first + 1) % 8, 0);
            due("two from " + first, channel(x, 1, 1), "3 0 0 " + (first + 2) % 8 + " " + first + " 0");
            x.hand(1, 1, DATA, (first + 2) % 8, 0);
            due("a third from " + first, channel(x, 1, 1), "5 0 0 0 0 -1");
        }
    }
}
