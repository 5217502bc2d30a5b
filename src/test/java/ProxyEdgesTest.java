import java.util.Arrays;

/** Promises 8 to 12: each sentence that names a boundary, by itself; what a refused call leaves is in RefusedTest. */
public final class ProxyEdgesTest {
    private static final int NONE = ForkedInvites.NONE;
    private static final int LEAST = Integer.MIN_VALUE;
    private static final int MOST = Integer.MAX_VALUE;
    private static final int INVITE = ForkedInvites.INVITE;
    private static final int CANCEL = ForkedInvites.CANCEL;
    private static final int TO_CALLER = Checks.TO_CALLER;

    public static void main(String[] args) {
        inviteOfNoCall();
        inviteAgainWhileProceeding();
        inviteAgainWhileCompleted();
        inviteAgainLeavesTheTimers();
        inviteAgainOtherwise();
        inviteWithHops();
        inviteOfUsers();
        inviteWithVia();
        inviteOfOneWithoutBindings();
        inviteAnswersTheFirstRefusal();
        twelveLiveTransactions();
        twelveWithEachNumberOfBranches();
        refusedOnesAndTheTwelve();
        endedOnesAndTheTwelve();
        tooManySendsOnce();
        inviteBeginsOneToFour();
        aCallUsedAgainBeginsAnew();
        aCallUsedAgainWithFewerBranches();
        aCallRefusedAgainHasNoBranches();
        replyAtTheBoundsOfCodes();
        replyAtTheBoundsOfBranches();
        replyCountsTheMessages();
        cancelledOnceForEachCancel();
        cancelledOnlyWhereACancelWasSent();
        cancelWhatIsOpen();
        cancelWhatIsNotProceeding();
        ackOnce();
        ackOfARefusal();
        Checks.end();
    }

    /** 8: "NONE, changing nothing, when call is not 0 .. 3." */
    private static void inviteOfNoCall() {
        ForkedInvites x = Checks.placed(1, 3);
        for (int call : new int[] {LEAST, -1, 4, MOST}) {
            Checks.due("8: invite(" + call + ", ..)", x.invite(call, 1, 1, 0), NONE);
            Checks.due("8: a refusal", x.invite(call, 1, 0, 0), NONE);
        }
        Checks.due("8: nothing was sent", x.sent(), 0);
        Checks.due("8: invite(0, ..)", x.invite(0, 1, 1, 0), 2);
        Checks.due("8: invite(3, ..)", x.invite(3, 1, 1, 0), 2);
    }

    /** 8: "when the server is proceeding or completed, the code that it sent to the caller latest (no success) is sent again". */
    private static void inviteAgainWhileProceeding() {
        ForkedInvites x = Checks.calling(1, 3, 4);
        again("8: the 100", x, 100);
        x.reply(0, 0, 100);
        again("8: the 100, a 100 came", x, 100);
        x.reply(0, 0, 199);
        again("8: the 199", x, 199);
        x.reply(0, 1, 101);
        again("8: the 101 of another", x, 101);
        x.reply(0, 1, 486);
        again("8: a failure was not sent yet", x, 101);
        x.cancel(0);
        again("8: cancelled, but still proceeding", x, 101);
        x.tick(9);
        again("8: later", x, 101);
    }

    private static void inviteAgainWhileCompleted() {
        ForkedInvites x = Checks.calling(1, 3);
        x.reply(0, 0, 183);
        x.reply(0, 0, 503);
        again("8: the 500 for a 503", x, 500);
        x.reply(0, 0, 200);
        again("8: a success is not the latest", x, 500);
        x.tick(1);
        Checks.due("13: G goes on as before", x.sent(), 9);
        x.tick(62);
        again("8: before H", x, 500);
        x = new ForkedInvites(1, 5);
        x.invite(0, 4, 1, 0);
        again("8: a refusal", x, 404);
    }

    private static void again(String what, ForkedInvites x, int code) {
        int live = x.live();
        Checks.due(what, x.invite(0, 1, 0, -1), 1);
        Checks.latest(what, x, Checks.message(x.now(), 0, TO_CALLER, code));
        Checks.due(what + ": live as before", x.live(), live);
        Checks.due(what + ": the latest code", x.server(0) / 8, code);
    }

    private static void inviteAgainLeavesTheTimers() {
        ForkedInvites x = Checks.calling(2, 3);
        x.tick(3);
        x.invite(0, 1, 1, 0);
        Checks.due("13: before A", x.tick(2), 0);
        Checks.due("13: A as it was set", x.tick(1), 1);
        x.reply(0, 0, 486);
        x.tick(3);
        x.invite(0, 1, 1, 0);
        Checks.due("13: before G", x.tick(2), 0);
        Checks.due("13: G as it was set", x.tick(1), 1);
        Checks.due("13: G twice that", x.tick(7), 0);
        Checks.due("13: G twice that", x.tick(1), 1);
        x.invite(0, 1, 1, 0);
        x.tick(128 - 14 - 1);
        Checks.due("15: before H", x.server(0), 2 + 8 * 486);
        x.tick(1);
        Checks.due("15: H as it was set", x.server(0), 0);
    }

    /** 8: "otherwise nothing. (0 then.)" */
    private static void inviteAgainOtherwise() {
        ForkedInvites x = Checks.calling(1, 3, 4);
        x.reply(0, 0, 200);
        Checks.due("8: answered", x.invite(0, 1, 1, 0), 0);
        x = Checks.calling(1, 3);
        x.reply(0, 0, 486);
        x.ack(0);
        Checks.due("8: confirmed", x.invite(0, 1, 1, 0), 0);
        x.tick(8);
        Checks.due("8: ended, but not its branch", x.invite(0, 1, 1, 0), 0);
        Checks.due("19: nothing was sent", x.sent(), 4);
        x.tick(56);
        Checks.due("8: not in use", x.invite(0, 1, 1, 0), 2);
    }

    private static void asked(String what, int user, int hops, int via, int code) {
        ForkedInvites x = Checks.placed(1, 3);
        Checks.due("8: " + what, x.invite(1, user, hops, via), code == 100 ? 2 : 1);
        Checks.due("8: " + what + ": server", x.server(1), (code == 100 ? 1 : 2) + 8 * code);
        Checks.due("8: " + what + ": branch", x.branch(1, 0), code == 100 ? 1 + 16 * 3 : 0);
        Checks.due("8: " + what + ": live", x.live(), code == 100 ? 2 : 1);
    }

    /** 8: "483 when hops is less than 1". */
    private static void inviteWithHops() {
        for (int hops : new int[] {LEAST, -1, 0}) {
            asked("hops " + hops, 1, hops, 0, 483);
        }
        for (int hops : new int[] {1, 2, 70, MOST}) {
            asked("hops " + hops, 1, hops, 0, 100);
        }
    }

    /** 8: "404 when user is not 0 .. 3". */
    private static void inviteOfUsers() {
        for (int user : new int[] {LEAST, -1, 4, 5, 32, 33, MOST}) {
            asked("user " + user, user, 1, 0, 404);
        }
        ForkedInvites x = new ForkedInvites(1, 5);
        for (int user = 0; user < 4; user++) {
            Checks.register(x, user, 9 + user, 5, 60, 0);
            Checks.due("8: user " + user, x.invite(user, user, 1, 0), 2);
            Checks.due("16: its contact", x.branch(user, 0), 1 + 16 * (9 + user));
        }
    }

    /** 8: "482 when bit user of via is set". */
    private static void inviteWithVia() {
        for (int user = 0; user < 4; user++) {
            ForkedInvites x = new ForkedInvites(1, 5);
            Checks.register(x, user, 3, 5, 60, 0);
            int bit = 1 << user;
            Checks.due("8: its bit alone", x.invite(0, user, 1, bit), 1);
            Checks.due("15: its bit alone", x.server(0), 2 + 8 * 482);
            x.invite(1, user, 1, -1);
            Checks.due("15: all bits", x.server(1), 2 + 8 * 482);
            x.invite(2, user, 1, ~bit);
            Checks.due("15: all but its bit", x.server(2), 1 + 8 * 100);
            x.invite(3, user, 1, 0);
            Checks.due("15: no bit", x.server(3), 1 + 8 * 100);
        }
        asked("the highest bit", 1, 1, LEAST, 100);
        asked("the bits beside it", 1, 1, 5, 100);
    }

    /** 8: "480 when the user has no binding". */
    private static void inviteOfOneWithoutBindings() {
        asked("none was bound", 0, 1, 0, 480);
        ForkedInvites x = Checks.placed(1, 3);
        Checks.register(x, 1, 3, 5, 0, 512);
        x.invite(0, 1, 1, 0);
        Checks.due("15: it was removed", x.server(0), 2 + 8 * 480);
        x = new ForkedInvites(1, 5);
        Checks.register(x, 1, 3, 5, 1, 0);
        x.invite(0, 1, 1, 0);
        x.tick(1);
        x.invite(1, 1, 1, 0);
        Checks.due("15: it was there", x.server(0), 1 + 8 * 100);
        Checks.due("15: it ended", x.server(1), 2 + 8 * 480);
    }

    /** 8: "the first of these". */
    private static void inviteAnswersTheFirstRefusal() {
        asked("all four", -1, 0, -1, 483);
        asked("483 and 482", 1, 0, -1, 483);
        asked("483 and 480", 2, 0, 0, 483);
        asked("404 and 482", 4, 1, -1, 404);
        asked("404 below 0 and 482", -1, 1, -1, 404);
        asked("482 and 480", 2, 1, 4, 482);
    }

    /** 8: "If there would be more than 12 live transactions with these, 503 is sent to the caller, and the call stays not in use." */
    private static void twelveLiveTransactions() {
        ForkedInvites x = Checks.placed(1, 1, 2, 3, 4);
        x.invite(0, 1, 1, 0);
        x.invite(1, 1, 1, 0);
        Checks.due("18: ten", x.live(), 10);
        Checks.register(x, 0, 5, 5, 60, 0);
        Checks.register(x, 2, 5, 5, 60, 0);
        Checks.register(x, 2, 6, 5, 60, 0);
        Checks.due("8: three more", x.invite(2, 2, 1, 0), 1);
        tooMany(x, 2, 10);
        Checks.due("8: two more", x.invite(2, 0, 1, 0), 2);
        Checks.due("18: twelve", x.live(), 12);
        Checks.due("15: in use", x.server(2), 1 + 8 * 100);
        Checks.due("8: one more", x.invite(3, 3, 1, 0), 1);
        tooMany(x, 3, 12);
    }

    private static void tooMany(ForkedInvites x, int call, int live) {
        Checks.latest("8: too many", x, Checks.message(x.now(), call, TO_CALLER, 503));
        Checks.due("15: not in use", x.server(call), 0);
        Checks.due("16: not in use", x.branch(call, 0), 0);
        Checks.due("9: not in use", x.reply(call, 0, 200), NONE);
        Checks.due("11: not in use", x.cancel(call), NONE);
        Checks.due("12: not in use", x.ack(call), false);
        Checks.due("18: as many as before", x.live(), live);
    }

    /** 8: "else 1 and one for each binding". */
    private static void twelveWithEachNumberOfBranches() {
        int[] contacts = {1, 2, 3, 4};
        for (int count = 1; count <= 4; count++) {
            for (int before = 11 - count; before <= 12 - count; before++) {
                ForkedInvites x = withLive(before);
                for (int k = 0; k < count; k++) {
                    Checks.register(x, 3, contacts[k], 5, 60, 0);
                }
                boolean room = before + 1 + count <= 12;
                Checks.due("8: " + count + " branches beside " + before, x.invite(3, 3, 1, 0), room ? 1 + count : 1);
                Checks.due("18: " + count + " branches beside " + before, x.live(), room ? 12 : before);
            }
        }
    }

    /** An object with so many live transactions (7 to 11) in the calls 0, 1 and 2. */
    private static ForkedInvites withLive(int count) {
        ForkedInvites x = Checks.placed(1, 1, 2, 3, 4);
        x.invite(0, 1, 1, 0);
        int[] others = Arrays.copyOf(new int[] {5, 6, 7, 8}, Math.min(count - 6, 4));
        for (int contact : others) {
            Checks.register(x, 2, contact, 5, 60, 0);
        }
        x.invite(1, 2, 1, 0);
        if (count == 11) {
            x.invite(2, 0, 0, 0);
        }
        Checks.due("18: live before", x.live(), count);
        return x;
    }

    /** 8: "With one of these it needs 1 transaction". */
    private static void refusedOnesAndTheTwelve() {
        ForkedInvites x = withLive(11);
        x.reply(0, 0, 200);
        Checks.due("18: ten live", x.live(), 10);
        Checks.due("8: a refusal of one with four bindings", x.invite(3, 1, 0, 0), 1);
        Checks.due("15: it needs one", x.server(3), 2 + 8 * 483);
        x = withLive(11);
        Checks.due("8: a refusal is the twelfth", x.invite(3, 1, 1, 2), 1);
        Checks.due("15: it has room", x.server(3), 2 + 8 * 482);
        Checks.due("18: twelve", x.live(), 12);
        int[][] refusals = {{1, 0, 0}, {4, 1, 0}, {1, 1, 2}, {3, 1, 0}};
        for (int[] r : refusals) {
            x = twelveInThree();
            Checks.due("8: a refusal is the thirteenth", x.invite(3, r[0], r[1], r[2]), 1);
            tooMany(x, 3, 12);
        }
    }

    private static ForkedInvites twelveInThree() {
        ForkedInvites x = Checks.placed(1, 1, 2, 3, 4);
        x.invite(0, 1, 1, 0);
        x.invite(1, 1, 1, 0);
        Checks.register(x, 2, 5, 5, 60, 0);
        x.invite(2, 2, 1, 0);
        Checks.due("18: twelve before", x.live(), 12);
        return x;
    }

    /** "LIVE transactions: servers and branches of calls in use that are not ended": an ended one gives room. */
    private static void endedOnesAndTheTwelve() {
        ForkedInvites x = twelveInThree();
        x.reply(0, 0, 486);
        x.invite(3, 0, 1, 0);
        Checks.due("15: a completed branch is not ended", x.server(3), 0);
        x.reply(0, 1, 200);
        x.invite(3, 0, 1, 0);
        Checks.due("15: an ended branch gives room", x.server(3), 2 + 8 * 480);
        Checks.due("18: twelve again", x.live(), 12);
        x.ack(3);
        Checks.due("18: a confirmed server lives", x.live(), 12);
        x.tick(8);
        Checks.due("18: an ended one does not", x.live(), 11);
        Checks.due("8: room again", x.invite(3, 0, 1, 0), 1);
        Checks.due("15: room again", x.server(3), 2 + 8 * 480);
    }

    /** 8: "(That is 1 message.)": no server, so no timer and no code to be sent again. */
    private static void tooManySendsOnce() {
        ForkedInvites x = twelveInThree();
        int before = x.sent();
        Checks.due("8: once", x.invite(3, 1, 1, 0), 1);
        Checks.due("8: again, as a new call", x.invite(3, 1, 1, 0), 1);
        Checks.latest("8: again", x, Checks.message(0, 3, TO_CALLER, 503), Checks.message(0, 3, TO_CALLER, 503));
        Checks.due("19: two", x.sent(), before + 2);
        Checks.due("13: the nine INVITEs alone", x.tick(1), 9);
        Checks.latest("13: the last is of call 2", x, Checks.message(1, 2, 0, INVITE));
    }

    /** 8: "100 is sent to the caller, and branches begin to the contacts of all bindings of the user, in their order". */
    private static void inviteBeginsOneToFour() {
        int[] contacts = {15, 0, 7, 8};
        for (int count = 1; count <= 4; count++) {
            ForkedInvites x = new ForkedInvites(1, 5);
            for (int k = 0; k < count; k++) {
                Checks.register(x, 1, contacts[k], k, 60, 0);
            }
            Checks.due("8: " + count, x.invite(2, 1, 1, 0), 1 + count);
            Checks.due("19: " + count, x.sent(), 1 + count);
            Checks.due("20: the 100 first", x.message(count), Checks.message(0, 2, TO_CALLER, 100));
            for (int k = 0; k < count; k++) {
                Checks.due("20: then the INVITEs", x.message(count - 1 - k), Checks.message(0, 2, k, INVITE));
                Checks.due("16: the greatest weight first", x.branch(2, k), 1 + 16 * contacts[count - 1 - k]);
            }
        }
    }

    /** 8: "A call not in use": one that ended is as one that never was. */
    private static void aCallUsedAgainBeginsAnew() {
        ForkedInvites x = Checks.calling(1, 3, 4);
        x.reply(0, 0, 180);
        x.cancel(0);
        x.tick(200);
        Checks.due("15: not in use", x.server(0), 0);
        Checks.due("8: anew", x.invite(0, 1, 1, 0), 3);
        Checks.due("15: anew", x.server(0), 1 + 8 * 100);
        for (int k = 0; k < 2; k++) {
            Checks.due("16: not marked", x.branch(0, k), 1 + 16 * (3 + k));
            Checks.due("17: no result", x.result(0, k), 0);
            Checks.due("10: no E", x.cancelled(0, k), false);
            Checks.due("9: not cancelled", x.reply(0, k, 100), 0);
        }
        Checks.due("11: a CANCEL on each", x.cancel(0), 2);
        Checks.due("9: an ACK, no answer yet", x.reply(0, 0, 487), 1);
        Checks.due("9: an ACK and the answer", x.reply(0, 1, 486), 2);
        Checks.due("15: the first that came now", x.server(0), 2 + 8 * 487);
    }

    private static void aCallUsedAgainWithFewerBranches() {
        ForkedInvites x = Checks.calling(1, 1, 2, 3, 4);
        x.reply(0, 3, 200);
        x.tick(64);
        Checks.register(x, 1, 1, 5, 0, 512);
        Checks.register(x, 1, 4, 5, 0, 512);
        Checks.due("8: two", x.invite(0, 1, 1, 0), 3);
        Checks.due("16: the first", x.branch(0, 0), 1 + 16 * 2);
        Checks.due("16: the second", x.branch(0, 1), 1 + 16 * 3);
        Checks.due("16: no third", x.branch(0, 2), 0);
        Checks.due("17: no fourth", x.result(0, 3), 0);
        Checks.due("18: live", x.live(), 3);
        x.reply(0, 1, 486);
        Checks.due("9: the answer of two", x.reply(0, 0, 486), 2);
    }

    private static void aCallRefusedAgainHasNoBranches() {
        ForkedInvites x = Checks.calling(1, 3, 4);
        x.reply(0, 0, 200);
        x.tick(64);
        Checks.due("8: refused", x.invite(0, 1, 0, 0), 1);
        Checks.due("16: no branch", x.branch(0, 0), 0);
        Checks.due("9: no branch", x.reply(0, 0, 200), NONE);
        Checks.due("18: live", x.live(), 1);
    }

    /** 9: "NONE .. when .. code is not 100 .. 699." */
    private static void replyAtTheBoundsOfCodes() {
        int[][] codes = {{LEAST, NONE}, {-1, NONE}, {0, NONE}, {99, NONE}, {100, 0}, {699, 2}, {700, NONE}, {MOST, NONE}};
        for (int[] c : codes) {
            ForkedInvites x = Checks.calling(1, 3);
            Checks.due("9: code " + c[0], x.reply(0, 0, c[0]), c[1]);
            Checks.due("16: code " + c[0], x.branch(0, 0) % 8 == 1, c[1] == NONE);
        }
    }

    /** 9: "NONE .. when call is not in use, it has no such branch". */
    private static void replyAtTheBoundsOfBranches() {
        for (int count = 1; count <= 4; count++) {
            ForkedInvites x = Checks.calling(1, Arrays.copyOf(new int[] {1, 2, 3, 4}, count));
            for (int k : new int[] {LEAST, -1, 0, count - 1, count, 4, MOST}) {
                boolean there = k >= 0 && k < count;
                Checks.due("9: branch " + k + " of " + count, x.reply(0, k, 180), there ? 1 : NONE);
                Checks.due("9: a call not in use", x.reply(1, k, 180), NONE);
            }
        }
    }

    /** 9: "Answers how many messages were sent": from none to four. */
    private static void replyCountsTheMessages() {
        ForkedInvites x = Checks.calling(1, 1, 2, 3, 4);
        for (int k = 1; k < 4; k++) {
            Checks.due("9: none", x.reply(0, k, 100), 0);
        }
        Checks.due("9: an ACK and three CANCELs", x.reply(0, 0, 600), 4);
        Checks.due("9: one", x.reply(0, 1, 180), 1);
        x.reply(0, 1, 487);
        x.reply(0, 2, 487);
        Checks.due("9: an ACK and the answer", x.reply(0, 3, 487), 2);
    }

    /** 10: "E is off. True when E was not off; false .. when it was". */
    private static void cancelledOnceForEachCancel() {
        ForkedInvites x = Checks.calling(1, 3, 4);
        x.reply(0, 0, 100);
        x.reply(0, 1, 100);
        x.cancel(0);
        x.tick(1);
        Checks.due("10: the first", x.cancelled(0, 0), true);
        Checks.due("10: the first again", x.cancelled(0, 0), false);
        Checks.due("13: the second sends its CANCEL", x.tick(2), 1);
        Checks.latest("13: the second", x, Checks.message(3, 0, 1, CANCEL));
        Checks.due("10: the second", x.cancelled(0, 1), true);
        Checks.due("13: none", x.tick(60), 0);
        Checks.due("10: E stays off", x.cancelled(0, 1), false);
        Checks.due("13: F of both", x.tick(1), 1);
        Checks.due("10: ended", x.cancelled(0, 0), false);
    }

    private static void cancelledOnlyWhereACancelWasSent() {
        ForkedInvites x = Checks.calling(1, 3, 4);
        Checks.due("10: calling", x.cancelled(0, 0), false);
        x.reply(0, 0, 180);
        Checks.due("10: proceeding", x.cancelled(0, 0), false);
        x.cancel(0);
        Checks.due("10: marked, but calling", x.cancelled(0, 1), false);
        Checks.due("10: no such branch", x.cancelled(0, 2), false);
        Checks.due("10: branch -1", x.cancelled(0, -1), false);
        Checks.due("10: not in use", x.cancelled(1, 0), false);
        Checks.due("10: call -1", x.cancelled(-1, 0), false);
        Checks.due("10: call 4", x.cancelled(4, 0), false);
        x.tick(63);
        Checks.due("10: before F", x.cancelled(0, 0), true);
        x = Checks.calling(1, 3, 4);
        x.reply(0, 0, 180);
        x.cancel(0);
        x.tick(64);
        Checks.due("16: ended by F", x.branch(0, 0), 4 + 8 + 16 * 3);
        Checks.due("10: ended by F", x.cancelled(0, 0), false);
    }

    /** 11: "the branches that are calling or proceeding are cancelled, in their order": of none to four proceeding. */
    private static void cancelWhatIsOpen() {
        for (int count = 0; count <= 4; count++) {
            ForkedInvites x = Checks.calling(1, 1, 2, 3, 4);
            for (int k = count - 1; k >= 0; k--) {
                x.reply(0, k, 100);
            }
            Checks.due("11: " + count + " proceeding", x.cancel(0), count);
            for (int k = 0; k < 4; k++) {
                Checks.due("16: marked", x.branch(0, k), (k < count ? 2 : 1) + 8 + 16 * (k + 1));
            }
            for (int k = 0; k < count; k++) {
                Checks.due("20: in their order", x.message(count - 1 - k), Checks.message(0, 0, k, CANCEL));
            }
            Checks.due("15: the server proceeds", x.server(0), 1 + 8 * 100);
            Checks.due("11: again", x.cancel(0), 0);
        }
    }

    /** 11: "if the server is proceeding"; "NONE, changing nothing, when call is not in use". */
    private static void cancelWhatIsNotProceeding() {
        ForkedInvites x = Checks.calling(1, 3);
        for (int call : new int[] {LEAST, -1, 1, 3, 4, MOST}) {
            Checks.due("11: cancel(" + call + ")", x.cancel(call), NONE);
        }
        x.reply(0, 0, 486);
        Checks.due("11: completed", x.cancel(0), 0);
        Checks.due("16: not marked", x.branch(0, 0), 3 + 16 * 3);
        x.ack(0);
        Checks.due("11: confirmed", x.cancel(0), 0);
        x.tick(8);
        Checks.due("11: ended", x.cancel(0), 0);
        x.tick(56);
        Checks.due("11: not in use", x.cancel(0), NONE);
        x = Checks.calling(1, 3);
        x.reply(0, 0, 200);
        Checks.due("11: answered", x.cancel(0), 0);
    }

    /** 12: "if the server is completed, it is confirmed ..: true. False, changing nothing, otherwise." */
    private static void ackOnce() {
        ForkedInvites x = Checks.calling(1, 3);
        for (int call : new int[] {LEAST, -1, 1, 3, 4, MOST}) {
            Checks.due("12: ack(" + call + ")", x.ack(call), false);
        }
        Checks.due("12: proceeding", x.ack(0), false);
        x.reply(0, 0, 486);
        x.tick(63);
        Checks.due("12: completed", x.ack(0), true);
        x.tick(4);
        Checks.due("12: confirmed", x.ack(0), false);
        x.tick(3);
        Checks.due("15: I was not set again", x.server(0), 3 + 8 * 486);
        x.tick(1);
        Checks.due("15: I", x.server(0), 0);
        Checks.due("12: not in use", x.ack(0), false);
    }

    private static void ackOfARefusal() {
        for (int call = 0; call < 4; call++) {
            ForkedInvites x = new ForkedInvites(1, 5);
            x.invite(call, 0, 0, 0);
            Checks.due("12: ack(" + call + ")", x.ack(call), true);
            Checks.due("15: server(" + call + ")", x.server(call), 3 + 8 * 483);
            x.tick(8);
            Checks.due("18: live", x.live(), 0);
        }
    }
}
