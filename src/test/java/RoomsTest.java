/** The sentences of full lines, of a full OUT and of full windows. */
public final class RoomsTest extends Checks {
    public static void main(String[] args) {
        twelveFramesAreUnderWay();
        inTheOrderInWhichTheyWereSent();
        eachLineHasItsRoom();
        sentence("a frame that is sent when 12 are there is lost");
        setupByOpenIsLost();
        setupByExpireIsLost();
        setupByTheFourthExpireIsLost();
        setupByAgreedIsLost();
        agreedWhenSettingIsLost();
        agreedOtherwiseIsLost();
        carrierIsLost();
        carriersBehindTheTwelfthAreLost();
        carriersAgainByExpireAreLost();
        carriersAgainByRejectAreLost();
        readyIsLost();
        rejectIsLost();
        aLostFrameStaysLost();
        aPlaceIsFreeAgain();
        sixteenPacketsAreInOut();
        sentence("it is lost if 16 are there");
        clearedIsLost();
        resetIsLost();
        renewedIsLost();
        theLastOneIsLostNotAnother();
        aLostAnswerIsFollowedByReady();
        outHasAPlaceAgain();
        threeAreUnconfirmed();
        finish();
    }

    /** Twelve frames are under way to the peer of station s, which is UP; one packet of it is unconfirmed. */
    private static ChannelledLink full(int s) {
        ChannelledLink x = upWithSetups(s, 11);
        x.call(s, 0);
        due("the line is full", x.link(1 - s, LINE), 12);
        return x;
    }

    private static void twelveFramesAreUnderWay() {
        sentence("The LINE of a station has the frames that are under way to it, at most 12");
        ChannelledLink x = new ChannelledLink();
        for (int many = 1; many <= 12; many++) {
            x.open(0);
            due("frames", x.link(1, LINE), many);
        }
        due("the last", frame(x, 1, 11), "1 0 0 0 0 0 0 0");
        due("none behind it", x.frame(1, 12, 0), -1);
        for (int many = 12; many >= 1; many--) {
            due("each can be taken", x.lose(1), SETUP);
        }
        due("none is left", x.link(1, LINE), 0);
    }

    private static void inTheOrderInWhichTheyWereSent() {
        sentence("in the order in which they were sent");
        ChannelledLink x = upWithSetups(0, 1);
        x.call(0, 2);
        x.call(0, 1);
        x.open(0);
        due("the line", line(x, 1), SETUP_FRAME + "[3 0 0 1 2 0 0 0][3 1 0 1 1 0 0 0]" + SETUP_FRAME);
        due("first", x.lose(1), SETUP);
        due("the line behind it", line(x, 1), "[3 0 0 1 2 0 0 0][3 1 0 1 1 0 0 0]" + SETUP_FRAME);
        due("second", x.lose(1), CARRIER);
        due("third", x.frame(1, 0, 4), 1);
    }

    private static void eachLineHasItsRoom() {
        sentence("The LINE of a station");
        ChannelledLink x = full(0);
        due("the other is empty", x.link(0, LINE), 0);
        for (int many = 1; many <= 12; many++) {
            x.open(1);
            due("and takes frames", x.link(0, LINE), many);
        }
        due("the full one is as it was", x.link(1, LINE), 12);
    }

    private static void setupByOpenIsLost() {
        ChannelledLink x = full(0);
        String before = line(x, 1);
        x.open(0);
        due("SETUP by open", line(x, 1), before);
        due("the station has set up", link(x, 0), "1" + CLEAN + " 0");
    }

    private static void setupByExpireIsLost() {
        ChannelledLink x = new ChannelledLink();
        for (int turn = 0; turn < 12; turn++) {
            x.open(0);
        }
        due("expire", x.expire(0), 1);
        due("SETUP by expire", x.link(1, LINE), 12);
        due("tries have grown", link(x, 0), "1 0 0 0 1 0 0 0");
    }

    private static void setupByTheFourthExpireIsLost() {
        ChannelledLink x = full(0);
        String before = line(x, 1);
        for (int tries = 1; tries <= 4; tries++) {
            due("expire", x.expire(0), tries);
        }
        due("nothing behind the twelfth", line(x, 1), before);
        due("the station has set up", link(x, 0), "1" + CLEAN + " 0");
    }

    private static void setupByAgreedIsLost() {
        ChannelledLink x = upWithSetups(0, 11);
        x.deliver(1);
        x.call(0, 0);
        x.call(0, 1);
        due("the line is full", x.link(1, LINE), 12);
        String before = line(x, 1);
        due("AGREED", x.deliver(0), AGREED);
        due("SETUP by AGREED", line(x, 1), before);
        due("the station has set up", link(x, 0), "1" + CLEAN + " 0");
    }

    private static void agreedWhenSettingIsLost() {
        ChannelledLink x = new ChannelledLink();
        for (int turn = 0; turn < 12; turn++) {
            x.open(1);
        }
        x.open(0);
        x.deliver(1);
        due("AGREED when SETTING", line(x, 0), SETUP_FRAME.repeat(12));
    }

    private static void agreedOtherwiseIsLost() {
        ChannelledLink x = full(1);
        String before = line(x, 0);
        x.open(0);
        x.deliver(1);
        due("AGREED when UP", line(x, 0), before);
        due("the station is UP and clean", link(x, 1), "2" + CLEAN + " 0");
    }

    private static void carrierIsLost() {
        ChannelledLink x = full(0);
        String before = line(x, 1);
        x.call(0, 1);
        due("CARRIER", line(x, 1), before);
        due("it was sent and is unconfirmed", link(x, 0), "2 2 0 0 0 0 2 0");
        due("the channel is CALLING", x.channel(0, 1, STATE), CALLING);
        loseAll(x, 1);
        x.expire(0);
        due("it is sent again by expire", line(x, 1), "[3 0 0 1 0 0 0 0][3 1 0 1 1 0 0 0]");
    }

    private static void carriersBehindTheTwelfthAreLost() {
        ChannelledLink x = up();
        fillOut(x, 0, 0, 6);
        x.expire(0);
        x.expire(0);
        x.expire(0);
        x.deliver(1);
        x.deliver(1);
        loseAll(x, 0);
        x.call(1, 1);
        x.call(1, 2);
        x.deliver(1);
        x.lose(0);
        due("two are confirmed out of turn, none is pumped", x.deliver(0), CARRIER);
        due("nine and REJECT are there", x.link(1, LINE), 10);
        due("the third is confirmed by READY", x.deliver(0), READY);
        due("two of three that are pumped", lineFrom(x, 1, 10), "[3 3 0 4 0 0 0 0][3 4 0 4 0 0 0 0]");
        due("all three were sent", link(x, 0), "2 6 3 0 0 1 3 0");
    }

    private static void carriersAgainByExpireAreLost() {
        ChannelledLink x = upWithSetups(0, 7);
        x.call(0, 0);
        x.call(0, 1);
        x.call(0, 2);
        x.expire(0);
        due("two of three again", lineFrom(x, 1, 10), "[3 0 0 1 0 0 0 0][3 1 0 1 1 0 0 0]");
        due("the station", link(x, 0), "2 3 0 0 1 0 3 0");
    }

    private static void carriersAgainByRejectAreLost() {
        ChannelledLink x = up();
        x.call(0, 0);
        x.call(0, 1);
        x.call(0, 2);
        x.lose(1);
        x.deliver(1);
        x.expire(0);
        x.expire(0);
        x.expire(0);
        due("ten are there", x.link(1, LINE), 10);
        due("REJECT", x.deliver(0), REJECT);
        due("two of three again", lineFrom(x, 1, 10), "[3 0 0 1 0 0 0 0][3 1 0 1 1 0 0 0]");
        due("the station", link(x, 0), "2 3 0 0 3 0 3 0");
    }

    private static void readyIsLost() {
        ChannelledLink x = full(1);
        String before = line(x, 0);
        x.call(0, 1);
        x.deliver(1);
        due("READY", line(x, 0), before);
        due("the frame was heard", link(x, 1), "2 1 0 1 0 0 1 0");
        due("and its packet", x.channel(1, 1, STATE), CALLED);
    }

    private static void rejectIsLost() {
        ChannelledLink x = full(1);
        String before = line(x, 0);
        x.call(0, 1);
        x.call(0, 2);
        x.lose(1);
        x.deliver(1);
        due("REJECT", line(x, 0), before);
        due("the station has rejected", link(x, 1), "2 1 0 0 0 1 1 0");
    }

    private static void aLostFrameStaysLost() {
        ChannelledLink x = full(0);
        x.call(0, 1);
        String before = line(x, 1);
        x.lose(1);
        due("eleven are left", line(x, 1), before.substring(SETUP_FRAME.length()));
    }

    private static void aPlaceIsFreeAgain() {
        ChannelledLink x = full(0);
        x.lose(1);
        x.call(0, 1);
        due("behind lose", frame(x, 1, 11), "3 1 0 1 1 0 0 0");
        x.deliver(1);
        x.call(0, 2);
        due("behind deliver", frame(x, 1, 11), "3 2 0 1 2 0 0 0");
        due("twelve", x.link(1, LINE), 12);
    }

    private static void sixteenPacketsAreInOut() {
        sentence("a row OUT of packets, at most 16");
        for (int link = DOWN; link <= UP; link++) {
            ChannelledLink x = link == UP ? up() : new ChannelledLink();
            if (link == SETTING) {
                x.open(0);
            }
            for (int many = 1; many <= 16; many++) {
                fillOut(x, 0, 0, 1);
                due("packets", x.link(0, OUT), many);
            }
            fillOut(x, 0, 0, 1);
            due("no more", x.link(0, OUT), 16);
            due("the link", x.link(0, LINK), link);
            due("of them unconfirmed", x.link(0, SENT), link == UP ? 3 : 0);
        }
    }

    /** OUT of station 0 is full, three of it unconfirmed; its channel 1 is OPEN. */
    private static ChannelledLink outFull() {
        ChannelledLink x = withNumbers();
        drain(x);
        fillOut(x, 0, 0, 16);
        due("OUT is full", x.link(0, OUT), 16);
        return x;
    }

    private static void clearedIsLost() {
        ChannelledLink x = outFull();
        due("CLEAR", x.hand(0, 1, CLEAR, 0, 0), true);
        due("CLEARED", x.link(0, OUT), 16);
        due("the channel is IDLE", channel(x, 0, 1), IDLE_CHANNEL);
        due("no packet of channel 1 comes", comesOnChannel(x, 1), 0);
    }

    private static void resetIsLost() {
        ChannelledLink x = outFull();
        due("DATA with a fault", x.hand(0, 1, DATA, 7, 1), true);
        due("RESET", x.link(0, OUT), 16);
        due("the channel is RESETTING", channel(x, 0, 1), "5 0 0 0 0 -1");
        due("no packet of channel 1 comes", comesOnChannel(x, 1), 0);
    }

    private static void renewedIsLost() {
        ChannelledLink x = outFull();
        due("RESET", x.hand(0, 1, RESET, 0, 0), true);
        due("RENEWED", x.link(0, OUT), 16);
        due("the channel is renewed", channel(x, 0, 1), "3 0 0 0 0 -1");
        due("no packet of channel 1 comes", comesOnChannel(x, 1), 0);
    }

    /** How many packets on this channel come to station 1 until no frame is under way. */
    private static int comesOnChannel(ChannelledLink x, int c) {
        int many = 0;
        for (int turn = 0; turn < 200 && x.link(0, LINE) + x.link(1, LINE) > 0; turn++) {
            if (x.link(1, LINE) > 0) {
                many += x.frame(1, 0, 3) > 0 && x.frame(1, 0, 4) == c ? 1 : 0;
                x.deliver(1);
            } else {
                x.deliver(0);
            }
        }
        due("all have come", x.link(0, OUT), 0);
        return many;
    }

    private static void theLastOneIsLostNotAnother() {
        ChannelledLink x = up();
        fillOut(x, 0, 0, 15);
        fillOut(x, 0, 2, 1);
        fillOut(x, 0, 1, 3);
        StringBuilder channels = new StringBuilder();
        for (int turn = 0; turn < 16; turn++) {
            channels.append(x.frame(1, 0, 4));
            x.deliver(1);
            x.deliver(0);
        }
        due("the sixteen that were there", channels.toString(), "0".repeat(15) + "2");
        due("no other", link(x, 0), "2 0 0 0 0 0 0 0");
    }

    private static void aLostAnswerIsFollowedByReady() {
        ChannelledLink x = inState(0, CALLING);
        fillOut(x, 1, 0, 16);
        due("the station that is called, OUT full", x.channel(1, 1, STATE) + x.link(1, OUT), CALLED + 16);
        x.clear(0, 1);
        due("CLEAR", x.deliver(1), CARRIER);
        due("no CLEARED", x.link(1, OUT), 16);
        due("but IDLE", x.channel(1, 1, STATE), IDLE);
        due("READY behind three CARRIERS", lineFrom(x, 0, 3), "[4 0 2 0 0 0 0 0]");
    }

    private static void outHasAPlaceAgain() {
        ChannelledLink x = up();
        fillOut(x, 0, 0, 16);
        x.deliver(1);
        x.deliver(0);
        due("fifteen", x.link(0, OUT), 15);
        fillOut(x, 0, 0, 1);
        due("sixteen", x.link(0, OUT), 16);
        fillOut(x, 0, 0, 1);
        due("and no more", x.link(0, OUT), 16);
    }

    private static void threeAreUnconfirmed() {
        sentence("packets wait and fewer than three are unconfirmed");
        ChannelledLink x = up();
        for (int many = 1; many <= 5; many++) {
            fillOut(x, 0, 0, 1);
            due("sent of " + many, x.link(0, SENT), Math.min(many, 3));
            due("under way of " + many, x.link(1, LINE), Math.min(many, 3));
            due("in OUT", x.link(0, OUT), many);
        }
        x.deliver(1);
        x.deliver(0);
        due("one confirmed, one more sent", link(x, 0), "2 4 1 0 0 0 4 0");
    }
}
