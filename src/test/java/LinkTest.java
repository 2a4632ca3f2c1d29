/** Promises 1 to 5, 13 and 15: links, lines and frames. */
public final class LinkTest {
    public static void main(String[] args) {
        promise1NewObject();
        promise2Open();
        promise2OpenFromUp();
        promise3ExpireSetting();
        promise3ExpireUp();
        promise3ExpireTriesAreForgotten();
        promise3ExpireDownKeepsWhatWaits();
        promise4SetupAndAgreed();
        promise4CarrierAndReady();
        promise4CarrierRejectedOnce();
        promise4RejectSendsAgainAndPumps();
        promise4ReadyPumps();
        promise4AcknowledgementOutOfWindow();
        promise4CarrierAnsweredByCarrier();
        promise4TriesStayWhenNoneIsConfirmed();
        promise4CarrierConfirmsAndPumps();
        promise4CarrierOutOfTurnConfirmsButDoesNotPump();
        promise4NothingIsHeardWhenNotUp();
        promise4NumbersGoOnByEight();
        promise5Lose();
        promise13Link();
        promise15Frame();
        lineHoldsTwelve();
        carrierThatTheLineLosesIsSent();
        outHoldsSixteen();
        Checks.finish();
    }

    private static void promise1NewObject() {
        ChannelledLink x = new ChannelledLink();
        for (int s = 0; s < 2; s++) {
            Checks.due("1: link of " + s, Checks.link(x, s), "0 0 0 0 0 0 0 0");
            Checks.due("1: line of " + s, x.frame(s, 0, 0), -1);
            for (int c = 0; c < 3; c++) {
                Checks.due("1: channel " + c + " of " + s, Checks.channel(x, s, c), "0 0 0 0 0 -1");
            }
        }
    }

    private static void promise2Open() {
        ChannelledLink x = new ChannelledLink();
        x.hand(0, 1, Checks.CALL, 0, 0);
        x.open(0);
        Checks.due("2: link", Checks.link(x, 0), "1 0 0 0 0 0 0 0");
        Checks.due("2: channel is cleaned", x.channel(0, 1, 0), Checks.IDLE);
        Checks.due("2: SETUP under way", Checks.line(x, 1), "[1 0 0 0 0 0 0 0]");
        Checks.due("2: own line", x.link(0, Checks.LINE), 0);
        Checks.due("2: peer is as it was", x.link(1, Checks.LINK), Checks.DOWN);
        x.open(0);
        Checks.due("2: a second SETUP", x.link(1, Checks.LINE), 2);
    }

    private static void promise2OpenFromUp() {
        ChannelledLink x = Checks.opened(2);
        x.send(0, 2, 7, false);
        x.open(0);
        Checks.due("2: cleaned", Checks.link(x, 0), "1 0 0 0 0 0 0 0");
        Checks.due("2: channel cleaned", Checks.channel(x, 0, 2), "0 0 0 0 0 -1");
        Checks.due("2: frames stay", Checks.line(x, 1), "[3 1 1 5 2 0 0 7][1 0 0 0 0 0 0 0]");
    }

    private static void promise3ExpireSetting() {
        ChannelledLink x = new ChannelledLink();
        Checks.refused("3: DOWN", x, Checks.ILLEGAL, () -> x.expire(0));
        x.open(0);
        for (int tries = 1; tries <= 3; tries++) {
            Checks.due("3: answer", x.expire(0), tries);
            Checks.due("3: tries", x.link(0, Checks.TRIES), tries);
            Checks.due("3: SETUP again", x.link(1, Checks.LINE), tries + 1);
        }
        Checks.due("3: last SETUP", x.frame(1, 3, 0), Checks.SETUP);
        Checks.due("3: fourth", x.expire(0), 4);
        Checks.due("3: DOWN after the fourth", Checks.link(x, 0), "0 0 0 0 0 0 0 0");
        Checks.due("3: no SETUP at the fourth", x.link(1, Checks.LINE), 4);
        Checks.refused("3: DOWN again", x, Checks.ILLEGAL, () -> x.expire(0));
    }

    private static void promise3ExpireUp() {
        ChannelledLink x = Checks.up();
        Checks.refused("3: UP, nothing unconfirmed", x, Checks.ILLEGAL, () -> x.expire(0));
        x.call(0, 0);
        x.call(0, 1);
        Checks.fillOut(x, 0, 2, 2);
        Checks.due("3: two CALL and one CLEARED of two sent", x.link(1, Checks.LINE), 3);
        x.lose(1);
        x.lose(1);
        x.lose(1);
        Checks.due("3: answer", x.expire(0), 1);
        Checks.due("3: all unconfirmed, no more", Checks.line(x, 1),
                "[3 0 0 1 0 0 0 0][3 1 0 1 1 0 0 0][3 2 0 4 2 0 0 0]");
        Checks.due("3: link", Checks.link(x, 0), "2 3 0 0 1 0 4 0");
        Checks.due("3: second", x.expire(0), 2);
        Checks.due("3: third", x.expire(0), 3);
        Checks.due("3: fourth", x.expire(0), 4);
        Checks.due("3: sets up", Checks.link(x, 0), "1 0 0 0 0 0 0 0");
        Checks.due("3: SETUP behind the nine", x.frame(1, 9, 0), Checks.SETUP);
        Checks.due("3: frames", x.link(1, Checks.LINE), 10);
        Checks.due("3: channels are cleaned", x.channel(0, 0, 0), Checks.IDLE);
    }

    private static void promise3ExpireTriesAreForgotten() {
        ChannelledLink x = Checks.up();
        x.call(0, 0);
        x.call(0, 1);
        x.expire(0);
        x.expire(0);
        x.deliver(1);
        x.deliver(0);
        Checks.due("3: tries are 0 when one is confirmed", x.link(0, Checks.TRIES), 0);
        Checks.due("3: and grow anew", x.expire(0), 1);
        Checks.due("3: a SETTING link keeps tries on SETUP", triesOfSettingAfterSetup(), 2);
    }

    private static int triesOfSettingAfterSetup() {
        ChannelledLink x = new ChannelledLink();
        x.open(0);
        x.open(1);
        x.expire(0);
        x.expire(0);
        x.deliver(0);
        return x.link(0, Checks.TRIES);
    }

    private static void promise3ExpireDownKeepsWhatWaits() {
        ChannelledLink x = new ChannelledLink();
        x.open(0);
        x.hand(0, 1, Checks.CALL, 0, 0);
        Checks.fillOut(x, 0, 2, 2);
        for (int tries = 0; tries < 4; tries++) {
            x.expire(0);
        }
        Checks.due("3: DOWN without cleaning", Checks.link(x, 0), "0 0 0 0 0 0 2 0");
        Checks.due("3: channel is as it was", x.channel(0, 1, 0), Checks.CALLED);
    }

    private static void promise4SetupAndAgreed() {
        ChannelledLink x = new ChannelledLink();
        Checks.refused("4: none there", x, Checks.NO_ELEMENT, () -> x.deliver(0));
        x.open(0);
        Checks.due("4: SETUP", x.deliver(1), Checks.SETUP);
        Checks.due("4: taken", x.link(1, Checks.LINE), 0);
        Checks.due("4: DOWN becomes UP", x.link(1, Checks.LINK), Checks.UP);
        Checks.due("4: AGREED under way", Checks.line(x, 0), "[2 0 0 0 0 0 0 0]");
        x.hand(0, 0, Checks.CALL, 0, 0);
        Checks.due("4: AGREED", x.deliver(0), Checks.AGREED);
        Checks.due("4: SETTING becomes UP", x.link(0, Checks.LINK), Checks.UP);
        Checks.due("4: and is cleaned", x.channel(0, 0, 0), Checks.IDLE);
        setupCleansWhenUp();
        setupsThatCross();
        agreedWhenDown();
    }

    private static void setupCleansWhenUp() {
        ChannelledLink x = Checks.opened(0);
        x.open(0);
        x.deliver(1);
        Checks.due("4: SETUP when UP cleans", Checks.link(x, 1), "2 0 0 0 0 0 0 0");
        Checks.due("4: its channel too", x.channel(1, 0, 0), Checks.IDLE);
        Checks.due("4: AGREED", x.frame(0, 0, 0), Checks.AGREED);
    }

    private static void setupsThatCross() {
        ChannelledLink x = new ChannelledLink();
        x.open(0);
        x.open(1);
        x.hand(0, 1, Checks.CALL, 0, 0);
        x.deliver(0);
        Checks.due("4: SETUP when SETTING", x.link(0, Checks.LINK), Checks.SETTING);
        Checks.due("4: does not clean", x.channel(0, 1, 0), Checks.CALLED);
        Checks.due("4: AGREED is sent", x.frame(1, 1, 0), Checks.AGREED);
        x.deliver(1);
        x.deliver(1);
        x.deliver(0);
        Checks.due("4: both UP", x.link(0, 0) + x.link(1, 0), 4);
        x.open(0);
        x.deliver(1);
        x.open(0);
        x.deliver(1);
        x.deliver(0);
        Checks.due("4: UP by the first AGREED", x.link(0, Checks.LINK), Checks.UP);
        x.deliver(0);
        Checks.due("4: AGREED when UP sets up", x.link(0, Checks.LINK), Checks.SETTING);
        Checks.due("4: with SETUP", Checks.line(x, 1), "[1 0 0 0 0 0 0 0]");
    }

    private static void agreedWhenDown() {
        ChannelledLink x = new ChannelledLink();
        x.open(0);
        x.deliver(1);
        for (int tries = 0; tries < 4; tries++) {
            x.expire(0);
        }
        x.hand(0, 1, Checks.CALL, 0, 0);
        Checks.due("4: AGREED", x.deliver(0), Checks.AGREED);
        Checks.due("4: AGREED when DOWN", x.link(0, Checks.LINK), Checks.DOWN);
        Checks.due("4: nothing is cleaned", x.channel(0, 1, 0), Checks.CALLED);
        Checks.due("4: nothing is sent", x.link(1, Checks.LINE), 3);
    }

    private static void promise4CarrierAndReady() {
        ChannelledLink x = Checks.up();
        x.call(0, 1);
        Checks.due("4: CARRIER", x.deliver(1), Checks.CARRIER);
        Checks.due("4: it is heard", x.channel(1, 1, 0), Checks.CALLED);
        Checks.due("4: expected grows", Checks.link(x, 1), "2 0 0 1 0 0 0 0");
        Checks.due("4: READY is sent", Checks.line(x, 0), "[4 0 1 0 0 0 0 0]");
        Checks.due("4: READY", x.deliver(0), Checks.READY);
        Checks.due("4: it confirms", Checks.link(x, 0), "2 1 1 0 0 0 0 0");
        Checks.due("4: READY is not answered", x.link(1, Checks.LINE), 0);
    }

    private static void promise4CarrierRejectedOnce() {
        ChannelledLink x = Checks.up();
        x.call(0, 0);
        x.call(0, 1);
        x.call(0, 2);
        x.lose(1);
        x.deliver(1);
        Checks.due("4: rejected", Checks.link(x, 1), "2 0 0 0 0 1 0 1");
        Checks.due("4: REJECT", Checks.line(x, 0), "[5 0 0 0 0 0 0 0]");
        Checks.due("4: not heard", x.channel(1, 1, 0), Checks.IDLE);
        x.deliver(1);
        Checks.due("4: rejected once", x.link(0, Checks.LINE), 1);
        Checks.due("4: REJECT comes", x.deliver(0), Checks.REJECT);
        x.deliver(1);
        Checks.due("4: has not rejected any more", Checks.link(x, 1), "2 0 0 1 0 0 0 2");
        x.lose(1);
        x.deliver(1);
        Checks.due("4: rejects anew", Checks.line(x, 0), "[4 0 1 0 0 0 0 0][5 0 1 0 0 0 0 0]");
        x.open(1);
        Checks.due("2: a station that is cleaned has not rejected", x.link(1, Checks.REJECTED), 0);
    }

    private static void promise4RejectSendsAgainAndPumps() {
        ChannelledLink x = Checks.up();
        x.call(0, 0);
        x.call(0, 1);
        x.call(0, 2);
        Checks.fillOut(x, 0, 2, 1);
        Checks.due("4: CALLING of station 0 hears no CALL, but CLEAR", x.channel(0, 2, 0), Checks.IDLE);
        Checks.due("4: one waits", Checks.link(x, 0), "2 3 0 0 0 0 4 0");
        x.deliver(1);
        x.lose(0);
        x.lose(1);
        x.deliver(1);
        Checks.due("4: REJECT with 1", Checks.line(x, 0), "[5 0 1 0 0 0 0 0]");
        x.deliver(0);
        Checks.due("4: two again, one new", Checks.line(x, 1),
                "[3 1 0 1 1 0 0 0][3 2 0 1 2 0 0 0][3 3 0 4 2 0 0 0]");
        Checks.due("4: link", Checks.link(x, 0), "2 4 1 0 0 0 3 0");
    }

    private static void promise4ReadyPumps() {
        ChannelledLink x = Checks.up();
        Checks.fillOut(x, 0, 0, 5);
        Checks.due("4: three are unconfirmed", Checks.link(x, 0), "2 3 0 0 0 0 5 0");
        x.deliver(1);
        x.deliver(1);
        x.lose(0);
        Checks.due("4: READY with 2", Checks.frame(x, 0, 0), "4 0 2 0 0 0 0 0");
        x.deliver(0);
        Checks.due("4: two are confirmed, two more sent", Checks.link(x, 0), "2 5 2 0 0 0 3 0");
        Checks.due("4: line", Checks.line(x, 1), "[3 2 0 4 0 0 0 0][3 3 0 4 0 0 0 0][3 4 0 4 0 0 0 0]");
    }

    private static void promise4AcknowledgementOutOfWindow() {
        ChannelledLink x = withReadyOfAnEarlierLife();
        x.call(0, 2);
        x.expire(0);
        x.lose(0);
        Checks.due("4: READY with 2, when 1 is unconfirmed", Checks.line(x, 0), "[4 0 2 0 0 0 0 0]");
        x.deliver(0);
        Checks.due("4: it confirms nothing", Checks.link(x, 0), "2 1 0 0 1 0 1 0");
        ChannelledLink y = withReadyOfAnEarlierLife();
        y.call(0, 2);
        y.expire(0);
        y.deliver(0);
        Checks.due("4: READY with 1 confirms", Checks.link(y, 0), "2 1 1 0 0 0 0 1");
        y.deliver(0);
        Checks.due("4: READY with 2 then not", Checks.link(y, 0), "2 1 1 0 0 0 0 0");
    }

    /** Station 0 is UP anew, and READY with 1 and with 2 of its earlier life are still on their way to it. */
    private static ChannelledLink withReadyOfAnEarlierLife() {
        ChannelledLink x = new ChannelledLink();
        x.open(0);
        x.open(0);
        x.deliver(1);
        x.deliver(0);
        x.call(0, 0);
        x.call(0, 1);
        x.open(0);
        x.deliver(1);
        x.deliver(1);
        x.deliver(1);
        x.deliver(0);
        return x;
    }

    private static void promise4TriesStayWhenNoneIsConfirmed() {
        ChannelledLink x = Checks.up();
        x.call(0, 0);
        x.call(0, 1);
        x.expire(0);
        x.lose(1);
        x.deliver(1);
        Checks.due("4: REJECT with 0", Checks.line(x, 0), "[5 0 0 0 0 0 0 0]");
        x.deliver(0);
        Checks.due("4: tries stay", Checks.link(x, 0), "2 2 0 0 1 0 2 0");
        Checks.due("4: both again", x.link(1, Checks.LINE), 4);
    }

    private static void promise4CarrierConfirmsAndPumps() {
        ChannelledLink x = withTwoWaitingAndTwoCallsUnderWay();
        x.deliver(0);
        Checks.due("4: three confirmed, two pumped", Checks.link(x, 0), "2 5 3 1 0 0 2 1");
        Checks.due("4: they acknowledge, no READY", Checks.line(x, 1), "[3 3 1 4 0 0 0 0][3 4 1 4 0 0 0 0]");
    }

    private static void promise4CarrierOutOfTurnConfirmsButDoesNotPump() {
        ChannelledLink x = withTwoWaitingAndTwoCallsUnderWay();
        x.lose(0);
        x.deliver(0);
        Checks.due("4: three confirmed, none pumped", Checks.link(x, 0), "2 3 3 0 0 1 2 0");
        Checks.due("4: REJECT alone", Checks.line(x, 1), "[5 0 0 0 0 0 0 0]");
        Checks.due("4: not heard", x.channel(0, 2, 0), Checks.IDLE);
    }

    private static ChannelledLink withTwoWaitingAndTwoCallsUnderWay() {
        ChannelledLink x = Checks.up();
        Checks.fillOut(x, 0, 0, 5);
        for (int turn = 0; turn < 3; turn++) {
            x.deliver(1);
            x.lose(0);
        }
        x.call(1, 1);
        x.call(1, 2);
        Checks.due("4: CALLs with 3", Checks.line(x, 0), "[3 0 3 1 1 0 0 0][3 1 3 1 2 0 0 0]");
        return x;
    }

    private static void promise4CarrierAnsweredByCarrier() {
        ChannelledLink x = Checks.opened(0);
        x.clear(0, 0);
        x.deliver(1);
        Checks.due("4: CLEARED carries the acknowledgement, no READY", Checks.line(x, 0), "[3 1 2 4 0 0 0 0]");
        x.deliver(0);
        Checks.due("4: confirmed by the CARRIER", Checks.link(x, 0), "2 2 2 2 0 0 0 0");
        Checks.due("4: that is answered by READY", Checks.line(x, 1), "[4 0 2 0 0 0 0 0]");
    }

    private static void lineHoldsTwelve() {
        ChannelledLink x = new ChannelledLink();
        for (int turn = 0; turn < 13; turn++) {
            x.open(0);
        }
        Checks.due("line holds 12", x.link(1, Checks.LINE), 12);
        x.lose(1);
        x.open(0);
        Checks.due("and 12 again", x.link(1, Checks.LINE), 12);
        Checks.due("frame 11", x.frame(1, 11, 0), Checks.SETUP);
        Checks.due("no frame 12", x.frame(1, 12, 0), -1);
        ChannelledLink y = Checks.up();
        y.call(0, 0);
        y.call(0, 1);
        y.call(0, 2);
        y.expire(0);
        y.expire(0);
        y.expire(0);
        String full = Checks.line(y, 1);
        y.deliver(1);
        y.deliver(0);
        y.clear(0, 0);
        Checks.due("the twelfth is on its way", y.frame(1, 11, 3), Checks.CLEAR);
        Checks.due("the frames before it are the old ones", Checks.line(y, 1).startsWith(full.substring(full.indexOf(']') + 1)), true);
    }

    private static void carrierThatTheLineLosesIsSent() {
        ChannelledLink x = Checks.up();
        x.call(0, 0);
        x.call(0, 1);
        x.expire(0);
        x.expire(0);
        x.expire(0);
        Checks.fillOut(x, 1, 2, 3);
        x.expire(1);
        x.expire(1);
        x.expire(1);
        Checks.due("line of 0 is full", x.link(0, Checks.LINE), 12);
        x.call(0, 2);
        x.deliver(1);
        Checks.due("CARRIER is heard, its READY lost", Checks.link(x, 1), "2 3 0 1 3 0 3 8");
        Checks.due("line of 0 is as it was", x.frame(0, 11, 0), Checks.CARRIER);
        ChannelledLink y = lineOfPeerFullWithTwoUnconfirmed();
        y.clear(0, 0);
        Checks.due("a CARRIER that is lost was sent all the same", Checks.link(y, 0), "2 3 0 0 2 0 3 0");
        Checks.due("the line has 12", y.link(1, Checks.LINE), 12);
        Checks.due("the last is an old one", y.frame(1, 11, 3), Checks.CALL);
    }

    private static ChannelledLink lineOfPeerFullWithTwoUnconfirmed() {
        ChannelledLink y = new ChannelledLink();
        for (int turn = 0; turn < 7; turn++) {
            y.open(0);
        }
        y.deliver(1);
        y.deliver(0);
        y.call(0, 0);
        y.call(0, 1);
        y.expire(0);
        y.expire(0);
        Checks.due("6 SETUP and 6 CARRIERS", y.link(1, Checks.LINE), 12);
        return y;
    }

    private static void outHoldsSixteen() {
        ChannelledLink x = new ChannelledLink();
        Checks.fillOut(x, 1, 0, 15);
        Checks.due("15 wait", x.link(1, Checks.OUT), 15);
        Checks.fillOut(x, 1, 0, 1);
        Checks.due("16 wait", x.link(1, Checks.OUT), 16);
        Checks.fillOut(x, 1, 0, 2);
        Checks.due("more are lost", Checks.link(x, 1), "0 0 0 0 0 0 16 0");
        Checks.due("none is under way", x.link(0, Checks.LINE), 0);
        ChannelledLink y = Checks.up();
        Checks.fillOut(y, 0, 0, 16);
        y.hand(0, 1, Checks.CALL, 0, 0);
        y.hand(0, 1, Checks.CLEAR, 0, 0);
        Checks.drain(y);
        Checks.due("16 were sent, the one of channel 1 not", Checks.link(y, 0), "2 0 0 0 0 0 0 0");
        Checks.due("and heard", y.link(1, Checks.EXPECTED), 0);
    }

    private static void promise4NothingIsHeardWhenNotUp() {
        ChannelledLink x = Checks.up();
        x.call(0, 0);
        x.open(1);
        Checks.due("4: CARRIER when SETTING", x.deliver(1), Checks.CARRIER);
        Checks.due("4: nothing", Checks.link(x, 1), "1 0 0 0 0 0 0 0");
        Checks.due("4: SETUP alone under way", x.link(0, Checks.LINE), 1);
        Checks.due("4: channel", x.channel(1, 0, 0), Checks.IDLE);
    }

    private static void promise4NumbersGoOnByEight() {
        ChannelledLink x = Checks.up();
        for (int turn = 0; turn < 18; turn++) {
            Checks.fillOut(x, 0, 0, 1);
            Checks.due("4: frame " + turn, Checks.line(x, 1), "[3 " + turn % 8 + " 0 4 0 0 0 0]");
            Checks.drain(x);
            int next = (turn + 1) % 8;
            Checks.due("4: station 0", Checks.link(x, 0), "2 " + next + " " + next + " 0 0 0 0 0");
            Checks.due("4: station 1", Checks.link(x, 1), "2 0 0 " + next + " 0 0 0 0");
        }
        Checks.fillOut(x, 0, 0, 5);
        Checks.drain(x);
        Checks.fillOut(x, 0, 0, 5);
        Checks.due("4: the window goes over the end", Checks.line(x, 1),
                "[3 7 0 4 0 0 0 0][3 0 0 4 0 0 0 0][3 1 0 4 0 0 0 0]");
        x.deliver(1);
        x.deliver(1);
        x.lose(0);
        x.deliver(0);
        Checks.due("4: confirmed over the end", Checks.link(x, 0), "2 4 1 0 0 0 3 0");
    }

    private static void promise5Lose() {
        ChannelledLink x = new ChannelledLink();
        Checks.refused("5: none there", x, Checks.NO_ELEMENT, () -> x.lose(1));
        x.open(0);
        Checks.due("5: kind", x.lose(1), Checks.SETUP);
        Checks.due("5: gone", x.link(1, Checks.LINE), 0);
        Checks.due("5: not heard", Checks.link(x, 1), "0 0 0 0 0 0 0 0");
    }

    private static void promise13Link() {
        ChannelledLink x = Checks.up();
        x.call(0, 0);
        Checks.due("13: all", Checks.link(x, 0), "2 1 0 0 0 0 1 0");
        Checks.due("13: line of the peer", x.link(1, 7), 1);
        for (int what : new int[] {-1, 8, Integer.MIN_VALUE, Integer.MAX_VALUE}) {
            Checks.due("13: what " + what, x.link(0, what), -1);
        }
    }

    private static void promise15Frame() {
        ChannelledLink x = Checks.opened(2);
        x.send(0, 2, 255, true);
        x.send(0, 2, 254, false);
        Checks.due("15: DATA", Checks.frame(x, 1, 0), "3 1 1 5 2 0 0 511");
        Checks.due("15: second DATA", Checks.frame(x, 1, 1), "3 2 1 5 2 1 0 254");
        Checks.due("15: frame 2 is not there", Checks.frame(x, 1, 2), "-1 -1 -1 -1 -1 -1 -1 -1");
        for (int k : new int[] {-1, 12, Integer.MIN_VALUE, Integer.MAX_VALUE}) {
            Checks.due("15: frame " + k, x.frame(1, k, 0), -1);
        }
        for (int what : new int[] {-1, 8, Integer.MIN_VALUE, Integer.MAX_VALUE}) {
            Checks.due("15: what " + what, x.frame(1, 0, what), -1);
        }
        x.deliver(1);
        x.deliver(1);
        x.receive(1, 2);
        Checks.due("15: READY", Checks.frame(x, 0, 1), "4 0 3 0 0 0 0 0");
        Checks.due("15: MOVE", Checks.frame(x, 0, 2), "3 1 3 6 2 0 1 0");
        x.send(1, 2, 0, true);
        Checks.due("15: DATA with acknowledgement", Checks.frame(x, 0, 3), "3 2 3 5 2 0 1 256");
    }
}
