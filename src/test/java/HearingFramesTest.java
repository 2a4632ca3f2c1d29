/** The sentences of cleaning, pumping, setting up and hearing a frame, each with the cases at its edges. */
public final class HearingFramesTest extends Checks {
    public static void main(String[] args) {
        openCleans();
        fourthExpireCleans();
        setupWhenUpCleans();
        setupWhenDownCleans();
        agreedWhenSettingCleans();
        agreedWhenUpCleans();
        nothingIsPumpedWhenNotUp();
        thePumpedBearSentAndExpected();
        theFirstAreUnconfirmed();
        aPacketIsPutBehindOut();
        setupWhenSetting();
        agreedWhenDown();
        othersWhenSetting();
        othersWhenDown();
        asManyAsUnconfirmedAreConfirmed();
        oneMoreThanUnconfirmedIsNothing();
        nothingUnconfirmedNothingConfirmed();
        whatWaitsIsNotConfirmed();
        triesAreZeroIfThereWereAny();
        triesStayIfThereWereNone();
        readyPumps();
        readyThatConfirmsNothingPumps();
        rejectConfirmsFirst();
        rejectSendsAgainTheFirstFirst();
        rejectWithAllConfirmedOnlyPumps();
        rejectWithNothingInOut();
        rejectThatConfirmsNothingPumps();
        expectedCarrierIsHeard();
        expectedCarrierEndsRejecting();
        expectedCarrierConfirmsFirst();
        expectedCarrierAnsweredByCarrier();
        expectedCarrierWithFullWindow();
        expectedCarrierPumpsWhatWaits();
        expectedCarrierWithWrongAcknowledgement();
        otherCarrierIsRejected();
        otherCarrierConfirmsButDoesNotPump();
        otherCarrierWhenRejected();
        otherCarrierWhenRejectedConfirms();
        finish();
    }

    /** No number of station 0 is 0, it has tried and rejected, has packets in OUT, and no channel of it is IDLE. */
    private static ChannelledLink inUse() {
        ChannelledLink x = opened(1);
        x.send(1, 1, 7, true);
        drain(x);
        x.send(0, 1, 9, false);
        x.call(0, 0);
        x.hand(0, 2, CALL, 0, 0);
        fillOut(x, 1, 0, 2);
        x.lose(0);
        x.deliver(0);
        x.expire(0);
        loseAll(x, 1);
        due("in use", link(x, 0), "2 3 1 2 1 1 2 0");
        due("channels in use", channel(x, 0, 0) + ", " + channel(x, 0, 1) + ", " + channel(x, 0, 2),
                "1 0 0 0 0 -1, 3 1 0 1 0 263, 2 0 0 0 0 -1");
        return x;
    }

    private static void isClean(ChannelledLink x, int s, int link) {
        sentence("To CLEAN a station: the numbers and tries are 0, it has not rejected, OUT is empty, "
                + "all channels are IDLE and have nothing.");
        due("station " + s, link(x, s), link + CLEAN + " " + x.link(s, LINE));
        for (int c = 0; c < 3; c++) {
            due("channel " + c, channel(x, s, c), IDLE_CHANNEL);
        }
    }

    private static void openCleans() {
        ChannelledLink x = inUse();
        x.open(0);
        isClean(x, 0, SETTING);
        sentence("SETTING UP a station: it is cleaned, its link is SETTING, and it sends SETUP.");
        due("SETUP", line(x, 1), SETUP_FRAME);
    }

    private static void fourthExpireCleans() {
        ChannelledLink x = inUse();
        x.expire(0);
        x.expire(0);
        loseAll(x, 1);
        due("fourth", x.expire(0), 4);
        isClean(x, 0, SETTING);
        sentence("one that is UP sets up");
        due("SETUP", line(x, 1), SETUP_FRAME);
    }

    private static void setupWhenUpCleans() {
        ChannelledLink x = inUse();
        x.open(1);
        due("SETUP", x.deliver(0), SETUP);
        isClean(x, 0, UP);
        sentence("otherwise the station is cleaned, its link is UP, and AGREED is sent");
        due("AGREED", line(x, 1), AGREED_FRAME);
    }

    /** Station 0 was handed packets: two wait, channels 1 and 2 are CALLED. */
    private static void handWhatWaits(ChannelledLink x) {
        fillOut(x, 0, 0, 2);
        x.hand(0, 1, CALL, 0, 0);
        x.hand(0, 2, CALL, 0, 0);
        due("two wait", x.link(0, OUT), 2);
    }

    private static void setupWhenDownCleans() {
        ChannelledLink x = new ChannelledLink();
        handWhatWaits(x);
        x.open(1);
        due("SETUP", x.deliver(0), SETUP);
        isClean(x, 0, UP);
        sentence("otherwise the station is cleaned, its link is UP, and AGREED is sent");
        due("AGREED", line(x, 1), AGREED_FRAME);
    }

    private static void agreedWhenSettingCleans() {
        ChannelledLink x = new ChannelledLink();
        x.open(0);
        x.deliver(1);
        x.expire(0);
        x.expire(0);
        handWhatWaits(x);
        due("tries", x.link(0, TRIES), 2);
        loseAll(x, 1);
        due("AGREED", x.deliver(0), AGREED);
        isClean(x, 0, UP);
        sentence("when SETTING, the station is cleaned and its link is UP");
        due("nothing is sent", x.link(1, LINE), 0);
    }

    private static void agreedWhenUpCleans() {
        ChannelledLink x = withReadiesOfAnEarlierLife();
        fillOut(x, 1, 1, 3);
        x.deliver(1);
        due("AGREED is behind READY and CARRIERS", x.frame(0, 6, 0), AGREED);
        handWhatWaits(x);
        fillOut(x, 0, 0, 3);
        x.expire(0);
        x.deliver(0);
        x.lose(0);
        x.lose(0);
        x.deliver(0);
        x.lose(0);
        x.deliver(0);
        x.expire(0);
        loseAll(x, 1);
        due("in use", link(x, 0), "2 5 3 1 1 1 2 1");
        due("AGREED", x.deliver(0), AGREED);
        isClean(x, 0, SETTING);
        sentence("when UP, it sets up");
        due("SETUP", line(x, 1), SETUP_FRAME);
    }

    private static void nothingIsPumpedWhenNotUp() {
        sentence("as long as its link is UP");
        ChannelledLink x = new ChannelledLink();
        fillOut(x, 0, 0, 4);
        due("DOWN", link(x, 0), "0 0 0 0 0 0 4 0");
        due("nothing under way", x.link(1, LINE), 0);
        x.open(0);
        fillOut(x, 0, 0, 4);
        due("SETTING", link(x, 0), "1 0 0 0 0 0 4 0");
        due("SETUP alone under way", line(x, 1), SETUP_FRAME);
    }

    private static void thePumpedBearSentAndExpected() {
        sentence("the first that waits is sent in a CARRIER with the number sent and the acknowledgement expected");
        ChannelledLink x = up();
        fillOut(x, 1, 1, 2);
        drain(x);
        fillOut(x, 0, 2, 1);
        fillOut(x, 0, 1, 1);
        fillOut(x, 0, 0, 1);
        due("three CARRIERS", line(x, 1), "[3 0 2 4 2 0 0 0][3 1 2 4 1 0 0 0][3 2 2 4 0 0 0 0]");
        due("sent grows", x.link(0, SENT), 3);
    }

    private static void theFirstAreUnconfirmed() {
        sentence("the first sent - acknowledged of them are UNCONFIRMED, the others wait");
        ChannelledLink x = up();
        for (int c = 0; c < 3; c++) {
            fillOut(x, 0, c, 2);
        }
        loseAll(x, 1);
        x.expire(0);
        due("the first three of six", line(x, 1), "[3 0 0 4 0 0 0 0][3 1 0 4 0 0 0 0][3 2 0 4 1 0 0 0]");
    }

    private static void aPacketIsPutBehindOut() {
        sentence("SENDING A PACKET: it is put behind OUT (it is lost if 16 are there), and the station is pumped.");
        ChannelledLink x = confirmedOutOfTurn(3);
        loseAll(x, 1);
        x.call(0, 2);
        due("the three that waited are sent", line(x, 1), "[3 3 0 4 0 0 0 0][3 4 0 4 0 0 0 0][3 5 0 4 0 0 0 0]");
        due("CALL waits behind them", link(x, 0), "2 6 3 0 0 1 4 0");
        ChannelledLink y = confirmedOutOfTurn(3);
        loseAll(y, 1);
        fillOut(y, 0, 2, 1);
        due("so with a packet that answers", link(y, 0), "2 6 3 0 0 1 4 0");
    }

    private static void setupWhenSetting() {
        sentence("when the link is SETTING, AGREED is sent");
        ChannelledLink x = new ChannelledLink();
        x.open(0);
        x.expire(0);
        x.open(1);
        handWhatWaits(x);
        loseAll(x, 1);
        due("SETUP", x.deliver(0), SETUP);
        due("AGREED", line(x, 1), AGREED_FRAME);
        due("nothing else is done", link(x, 0), "1 0 0 0 1 0 2 0");
        due("nor to a channel", x.channel(0, 1, STATE), CALLED);
    }

    private static void agreedWhenDown() {
        sentence("when DOWN, nothing");
        ChannelledLink x = new ChannelledLink();
        x.open(0);
        x.deliver(1);
        giveUp(x);
        handWhatWaits(x);
        due("AGREED", x.deliver(0), AGREED);
        due("still DOWN", link(x, 0), "0 0 0 0 0 0 2 0");
        due("its channel as it was", x.channel(0, 1, STATE), CALLED);
        due("nothing is sent", x.link(1, LINE), 0);
    }

    /** Station 0, which is SETTING, becomes DOWN, and no frame of it is under way. */
    private static void giveUp(ChannelledLink x) {
        for (int tries = 1; tries <= 4; tries++) {
            x.expire(0);
        }
        loseAll(x, 1);
        due("DOWN", x.link(0, LINK), DOWN);
    }

    /** A frame of this kind is the first on its way to station 0. */
    private static ChannelledLink withFrameToZero(int kind) {
        ChannelledLink x = up();
        if (kind == CARRIER) {
            x.call(1, 0);
        } else {
            x.call(0, 0);
            x.call(0, 1);
            if (kind == REJECT) {
                x.lose(1);
            }
            x.deliver(1);
        }
        loseAll(x, 1);
        due("the frame", x.frame(0, 0, 0), kind);
        return x;
    }

    private static void othersWhenSetting() {
        sentence("All others are heard when the link is UP alone.");
        for (int kind = CARRIER; kind <= REJECT; kind++) {
            ChannelledLink x = withFrameToZero(kind);
            x.open(0);
            loseAll(x, 1);
            handWhatWaits(x);
            x.expire(0);
            loseAll(x, 1);
            due("comes", x.deliver(0), kind);
            due("nothing when SETTING, kind " + kind, link(x, 0), "1 0 0 0 1 0 2 0");
            due("nothing heard", x.channel(0, 0, STATE), IDLE);
            due("nothing sent", x.link(1, LINE), 0);
        }
    }

    private static void othersWhenDown() {
        sentence("All others are heard when the link is UP alone.");
        for (int kind = CARRIER; kind <= REJECT; kind++) {
            ChannelledLink x = withFrameToZero(kind);
            x.open(0);
            giveUp(x);
            handWhatWaits(x);
            due("comes", x.deliver(0), kind);
            due("nothing when DOWN, kind " + kind, link(x, 0), "0 0 0 0 0 0 2 0");
            due("nothing heard", x.channel(0, 0, STATE), IDLE);
            due("nothing sent", x.link(1, LINE), 0);
        }
    }

    private static void asManyAsUnconfirmedAreConfirmed() {
        sentence("when the acknowledgement - acknowledged is not more than sent - acknowledged, "
                + "so many packets are taken from the beginning of OUT");
        for (int many = 1; many <= 3; many++) {
            ChannelledLink x = withReadiesOfAnEarlierLife();
            fillOut(x, 0, 0, many);
            for (int turn = 1; turn < many; turn++) {
                x.lose(0);
            }
            x.deliver(0);
            due("READY " + many + " of " + many, link(x, 0), "2 " + many + " " + many + " 0 0 0 0 " + (3 - many));
        }
    }

    private static void oneMoreThanUnconfirmedIsNothing() {
        sentence("and tries is 0 if there were any; otherwise nothing");
        for (int many = 1; many <= 2; many++) {
            ChannelledLink x = withReadiesOfAnEarlierLife();
            fillOut(x, 0, 0, many);
            x.expire(0);
            for (int turn = 0; turn < many; turn++) {
                x.lose(0);
            }
            x.deliver(0);
            due("READY " + (many + 1) + " of " + many, link(x, 0),
                    "2 " + many + " 0 0 1 0 " + many + " " + (2 - many));
        }
    }

    private static void nothingUnconfirmedNothingConfirmed() {
        sentence("is not more than sent - acknowledged");
        ChannelledLink x = withReadiesOfAnEarlierLife();
        due("READY 1 when OUT is empty", x.deliver(0), READY);
        due("nothing", link(x, 0), "2" + CLEAN + " 2");
        due("nothing is sent", line(x, 1), SETUP_FRAME);
    }

    private static void whatWaitsIsNotConfirmed() {
        sentence("is not more than sent - acknowledged");
        ChannelledLink x = withReadiesOfAnEarlierLife();
        fillOut(x, 0, 0, 6);
        x.deliver(0);
        x.deliver(0);
        x.deliver(0);
        x.open(0);
        due("the earlier life sent six", x.link(1, LINE), 8);
        for (int turn = 0; turn < 4; turn++) {
            x.deliver(1);
        }
        x.call(1, 1);
        x.call(1, 2);
        x.deliver(1);
        due("AGREED", x.deliver(0), AGREED);
        fillOut(x, 0, 0, 6);
        for (int turn = 0; turn < 4; turn++) {
            x.lose(0);
        }
        due("a CARRIER out of turn confirms three", x.deliver(0), CARRIER);
        due("three wait, none is unconfirmed", link(x, 0), "2 3 3 0 0 1 3 1");
        due("READY 4", line(x, 0), "[4 0 4 0 0 0 0 0]");
        x.deliver(0);
        due("none is confirmed, three are pumped", link(x, 0), "2 6 3 0 0 1 3 0");
    }

    private static void triesAreZeroIfThereWereAny() {
        sentence("and tries is 0 if there were any");
        ChannelledLink x = up();
        fillOut(x, 0, 0, 2);
        x.expire(0);
        x.expire(0);
        x.expire(0);
        x.deliver(1);
        x.deliver(0);
        due("one of two is confirmed", link(x, 0), "2 2 1 0 0 0 1 0");
        due("tries begin anew", x.expire(0), 1);
    }

    private static void triesStayIfThereWereNone() {
        sentence("and tries is 0 if there were any");
        ChannelledLink x = up();
        fillOut(x, 0, 0, 2);
        x.expire(0);
        x.expire(0);
        x.lose(1);
        x.deliver(1);
        due("REJECT with 0", x.deliver(0), REJECT);
        due("none is confirmed", link(x, 0), "2 2 0 0 2 0 2 0");
        due("tries go on", x.expire(0), 3);
        ChannelledLink y = up();
        fillOut(y, 0, 0, 2);
        y.expire(0);
        y.call(1, 1);
        due("CARRIER with 0", y.deliver(0), CARRIER);
        due("tries stay", y.link(0, TRIES), 1);
    }

    private static void readyPumps() {
        sentence("READY: then the station is pumped.");
        ChannelledLink x = up();
        fillOut(x, 0, 0, 6);
        x.deliver(1);
        x.deliver(1);
        x.deliver(1);
        x.lose(0);
        x.lose(0);
        x.deliver(0);
        due("three confirmed, three sent", link(x, 0), "2 6 3 0 0 0 3 0");
        due("three more", line(x, 1), "[3 3 0 4 0 0 0 0][3 4 0 4 0 0 0 0][3 5 0 4 0 0 0 0]");
    }

    private static void readyThatConfirmsNothingPumps() {
        sentence("READY: then the station is pumped.");
        ChannelledLink x = withReadiesOfAnEarlierLife();
        fillOut(x, 1, 1, 2);
        fillOut(x, 0, 0, 6);
        x.deliver(1);
        x.deliver(1);
        due("READY 1 is behind AGREED", frame(x, 0, 6), "4 0 1 0 0 0 0 0");
        for (int turn = 0; turn < 4; turn++) {
            x.lose(0);
        }
        due("a CARRIER out of turn", x.deliver(0), CARRIER);
        due("AGREED", x.lose(0), AGREED);
        loseAll(x, 1);
        due("three wait, none is unconfirmed", link(x, 0), "2 3 3 0 0 1 3 1");
        due("READY 1", x.deliver(0), READY);
        due("three sent, none confirmed", link(x, 0), "2 6 3 0 0 1 3 0");
        due("three under way", x.link(1, LINE), 3);
    }

    private static void rejectConfirmsFirst() {
        sentence("They CONFIRM first");
        ChannelledLink x = up();
        fillOut(x, 0, 0, 3);
        x.expire(0);
        x.deliver(1);
        x.lose(0);
        x.lose(1);
        x.deliver(1);
        loseAll(x, 1);
        due("REJECT with 1", line(x, 0), "[5 0 1 0 0 0 0 0]");
        x.deliver(0);
        due("one is confirmed", link(x, 0), "2 3 1 0 0 0 2 0");
        due("two are sent again", line(x, 1), "[3 1 0 4 0 0 0 0][3 2 0 4 0 0 0 0]");
    }

    private static void rejectSendsAgainTheFirstFirst() {
        sentence("then all unconfirmed packets are sent again, the first one first, in CARRIERS with their numbers "
                + "and the acknowledgement expected, and the station is pumped");
        ChannelledLink x = up();
        fillOut(x, 0, 2, 1);
        fillOut(x, 0, 1, 1);
        fillOut(x, 0, 0, 2);
        fillOut(x, 1, 0, 1);
        x.lose(1);
        x.deliver(1);
        x.lose(1);
        due("a CARRIER before it", x.deliver(0), CARRIER);
        loseAll(x, 1);
        due("REJECT", x.deliver(0), REJECT);
        due("three again, with the acknowledgement of now", line(x, 1),
                "[3 0 1 4 2 0 0 0][3 1 1 4 1 0 0 0][3 2 1 4 0 0 0 0]");
        due("sent does not grow", link(x, 0), "2 3 0 1 0 0 4 0");
    }

    /** Station 0 has three packets that wait and none unconfirmed; REJECT 3 comes to it. */
    private static ChannelledLink withRejectAndThreeWaiting() {
        ChannelledLink x = up();
        fillOut(x, 0, 0, 6);
        x.expire(0);
        x.deliver(1);
        x.deliver(1);
        x.deliver(1);
        loseAll(x, 0);
        x.call(1, 1);
        x.call(1, 2);
        x.deliver(1);
        x.lose(0);
        x.deliver(0);
        loseAll(x, 1);
        due("three wait", link(x, 0), "2 3 3 0 0 1 3 1");
        due("REJECT 3", line(x, 0), "[5 0 3 0 0 0 0 0]");
        return x;
    }

    private static void rejectWithAllConfirmedOnlyPumps() {
        sentence("REJECT: then all unconfirmed packets are sent again");
        ChannelledLink x = up();
        fillOut(x, 0, 0, 4);
        x.expire(0);
        x.deliver(1);
        x.deliver(1);
        x.deliver(1);
        loseAll(x, 0);
        x.deliver(1);
        loseAll(x, 1);
        due("REJECT 3", line(x, 0), "[5 0 3 0 0 0 0 0]");
        x.deliver(0);
        due("the fourth alone", line(x, 1), "[3 3 0 4 0 0 0 0]");
        due("three are confirmed", link(x, 0), "2 4 3 0 0 0 1 0");
    }

    private static void rejectWithNothingInOut() {
        sentence("REJECT: then all unconfirmed packets are sent again");
        ChannelledLink x = up();
        fillOut(x, 0, 0, 1);
        x.expire(0);
        x.deliver(1);
        x.deliver(1);
        due("READY", x.deliver(0), READY);
        due("REJECT 1", x.deliver(0), REJECT);
        due("nothing is left", link(x, 0), "2 1 1 0 0 0 0 0");
        due("nothing is sent", x.link(1, LINE), 0);
    }

    private static void rejectThatConfirmsNothingPumps() {
        sentence("and the station is pumped");
        ChannelledLink x = withRejectAndThreeWaiting();
        x.deliver(0);
        due("three are sent", link(x, 0), "2 6 3 0 0 1 3 0");
        due("once each", line(x, 1), "[3 3 0 4 0 0 0 0][3 4 0 4 0 0 0 0][3 5 0 4 0 0 0 0]");
    }

    private static void expectedCarrierIsHeard() {
        sentence("CARRIER: if its number is expected, expected grows by 1");
        ChannelledLink x = up();
        x.call(0, 2);
        x.deliver(1);
        due("heard", link(x, 1), "2 0 0 1 0 0 0 0");
        due("its packet too", x.channel(1, 2, STATE), CALLED);
        sentence("and if that sends none, it sends READY");
        due("READY", line(x, 0), "[4 0 1 0 0 0 0 0]");
    }

    private static void expectedCarrierEndsRejecting() {
        sentence("the station has not rejected any more");
        ChannelledLink x = up();
        fillOut(x, 0, 0, 2);
        x.lose(1);
        x.deliver(1);
        due("rejected", x.link(1, REJECTED), 1);
        x.deliver(0);
        x.deliver(1);
        due("not any more", x.link(1, REJECTED), 0);
        x.expire(0);
        x.lose(1);
        x.deliver(1);
        due("it rejects anew", link(x, 1), "2 0 0 1 0 1 0 1");
        due("with 1", frame(x, 0, 1), "5 0 1 0 0 0 0 0");
    }

    private static void expectedCarrierConfirmsFirst() {
        sentence("They CONFIRM first");
        ChannelledLink x = up();
        fillOut(x, 0, 0, 3);
        x.expire(0);
        x.deliver(1);
        x.deliver(1);
        x.deliver(1);
        loseAll(x, 0);
        x.call(1, 1);
        loseAll(x, 1);
        x.deliver(0);
        due("all three are confirmed", link(x, 0), "2 3 3 1 0 0 0 0");
        due("then READY", line(x, 1), "[4 0 1 0 0 0 0 0]");
    }

    private static void expectedCarrierAnsweredByCarrier() {
        sentence("if it has sent no CARRIER since it began to hear the frame");
        ChannelledLink x = inState(0, CALLING);
        x.clear(0, 1);
        x.deliver(1);
        due("CLEARED in a CARRIER with the new acknowledgement, no READY", line(x, 0), "[3 0 2 4 1 0 0 0]");
    }

    private static void expectedCarrierWithFullWindow() {
        sentence("it is pumped, and if that sends none, it sends READY");
        ChannelledLink x = inState(0, CALLING);
        fillOut(x, 1, 0, 3);
        x.clear(0, 1);
        x.deliver(1);
        due("CLEARED waits", link(x, 1), "2 3 0 2 0 0 4 0");
        due("READY", lineFrom(x, 0, 3), "[4 0 2 0 0 0 0 0]");
    }

    private static void expectedCarrierPumpsWhatWaits() {
        sentence("it is pumped, and if that sends none, it sends READY");
        ChannelledLink x = up();
        fillOut(x, 0, 0, 4);
        x.deliver(1);
        loseAll(x, 0);
        x.call(1, 1);
        loseAll(x, 1);
        x.deliver(0);
        due("one confirmed, one pumped, no READY", line(x, 1), "[3 3 1 4 0 0 0 0]");
        due("the station", link(x, 0), "2 4 1 1 0 0 3 0");
    }

    private static void expectedCarrierWithWrongAcknowledgement() {
        sentence("and tries is 0 if there were any; otherwise nothing");
        ChannelledLink x = withReadiesOfAnEarlierLife();
        x.call(1, 2);
        fillOut(x, 0, 0, 1);
        x.lose(0);
        x.lose(0);
        x.lose(0);
        due("acknowledgement 3, one unconfirmed", frame(x, 0, 0), "3 0 3 1 2 0 0 0");
        x.deliver(0);
        due("nothing confirmed, but heard", link(x, 0), "2 1 0 1 0 0 1 0");
        due("its packet too", x.channel(0, 2, STATE), CALLED);
        due("READY", lineFrom(x, 1, 2), "[4 0 1 0 0 0 0 0]");
    }

    private static void otherCarrierIsRejected() {
        sentence("If its number is another one, and the station has not rejected, it has now and sends REJECT");
        ChannelledLink x = up();
        fillOut(x, 0, 0, 1);
        x.call(0, 2);
        x.lose(1);
        x.deliver(1);
        due("one ahead", link(x, 1), "2 0 0 0 0 1 0 0");
        due("not heard", x.channel(1, 2, STATE), IDLE);
        due("REJECT 0", line(x, 0), "[5 0 0 0 0 0 0 0]");
        ChannelledLink y = up();
        y.call(0, 2);
        y.expire(0);
        y.deliver(1);
        y.accept(1, 2);
        loseAll(y, 0);
        y.deliver(1);
        due("one behind", link(y, 1), "2 1 0 1 0 1 1 0");
        due("REJECT 1", line(y, 0), "[5 0 1 0 0 0 0 0]");
    }

    private static void otherCarrierConfirmsButDoesNotPump() {
        sentence("They CONFIRM first");
        for (int confirmed = 1; confirmed <= 3; confirmed++) {
            ChannelledLink x = confirmedOutOfTurn(confirmed);
            due(confirmed + " confirmed, none pumped", link(x, 0), "2 3 " + confirmed + " 0 0 1 " + (6 - confirmed) + " 0");
            due("REJECT behind the rest", lineFrom(x, 1, 3 - confirmed), "[5 0 0 0 0 0 0 0]");
        }
    }

    private static void otherCarrierWhenRejected() {
        sentence("if it has, nothing more");
        ChannelledLink x = up();
        fillOut(x, 0, 0, 3);
        x.lose(1);
        x.deliver(1);
        x.deliver(1);
        due("one REJECT", line(x, 0), "[5 0 0 0 0 0 0 0]");
        due("still rejected", link(x, 1), "2 0 0 0 0 1 0 0");
    }

    private static void otherCarrierWhenRejectedConfirms() {
        sentence("if it has, nothing more");
        ChannelledLink x = up();
        fillOut(x, 0, 0, 5);
        fillOut(x, 1, 0, 2);
        x.deliver(1);
        x.expire(1);
        x.lose(0);
        x.deliver(0);
        due("rejected with nothing confirmed", link(x, 0), "2 3 0 0 0 1 5 3");
        x.lose(0);
        x.lose(0);
        loseAll(x, 1);
        due("its number is 1, its acknowledgement too", frame(x, 0, 0), "3 1 1 4 0 0 0 0");
        x.deliver(0);
        due("one confirmed, none pumped", link(x, 0), "2 3 1 0 0 1 4 0");
        due("nothing is sent", x.link(1, LINE), 0);
    }
}
