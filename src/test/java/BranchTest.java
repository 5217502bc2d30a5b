/** Promises 9, 10, 11, 16 and 17: reply, cancelled, cancel, branch, result; and the timers A to F. */
public final class BranchTest {
    private static final int NONE = ForkedInvites.NONE;
    private static final int INVITE = ForkedInvites.INVITE;
    private static final int CANCEL = ForkedInvites.CANCEL;
    private static final int ACK = ForkedInvites.ACK;

    public static void main(String[] args) {
        wrongReplies();
        provisional();
        provisionalAfterTheAnswer();
        success();
        successAfterFailure();
        successTwice();
        failure();
        failureOf600();
        repliesToAnEndedBranch();
        cancel();
        cancelWhileCalling();
        cancelled();
        lostInvites();
        nobodyThere();
        ringsTooLong();
        ringsAnew();
        noCancelBeforeAnything();
        lostCancels();
        completedBranchEnds();
        Checks.end();
    }

    private static void wrongReplies() {
        ForkedInvites x = Checks.calling(1, 3);
        int sent = x.sent();
        int[][] wrong = {{0, 0, 99}, {0, 0, 700}, {0, 0, -1}, {0, 0, 0}, {0, -1, 180}, {0, 1, 180}, {0, 4, 180}, {1, 0, 180}, {-1, 0, 180}, {4, 0, 180}};
        for (int[] w : wrong) {
            Checks.due("9: wrong input", x.reply(w[0], w[1], w[2]), NONE);
        }
        Checks.due("9: nothing was sent", x.sent(), sent);
        Checks.due("9: nothing changed", x.branch(0, 0), 1 + 16 * 3);
        Checks.due("9: the least code", x.reply(0, 0, 100), 0);
        Checks.due("9: the greatest code", x.reply(0, 0, 699), 2);
    }

    private static void provisional() {
        ForkedInvites x = Checks.calling(1, 3, 4);
        Checks.due("9: 100", x.reply(0, 0, 100), 0);
        Checks.due("16: proceeding", x.branch(0, 0), 2 + 16 * 3);
        Checks.due("16: the other is calling", x.branch(0, 1), 1 + 16 * 4);
        Checks.due("9: 101", x.reply(0, 0, 101), 1);
        Checks.latest("9: 101 to the caller", x, Checks.message(0, 0, Checks.TO_CALLER, 101));
        Checks.due("9: 199", x.reply(0, 1, 199), 1);
        Checks.due("15: the latest code", x.server(0), 1 + 8 * 199);
        Checks.due("9: 100 after it", x.reply(0, 1, 100), 0);
        Checks.due("15: 100 is not sent on", x.server(0), 1 + 8 * 199);
        Checks.due("17: no result", x.result(0, 0), 0);
        Checks.due("13: no INVITE is sent again", x.tick(64), 0);
    }

    private static void provisionalAfterTheAnswer() {
        ForkedInvites x = Checks.calling(1, 3, 4);
        x.reply(0, 0, 200);
        Checks.due("16: wanted to end", x.branch(0, 1), 1 + 8 + 16 * 4);
        Checks.due("9: 180 after the answer", x.reply(0, 1, 180), 1);
        Checks.latest("9: only a CANCEL", x, Checks.message(0, 0, 1, CANCEL));
        Checks.due("15: answered", x.server(0), 4 + 8 * 100);
        Checks.due("9: one CANCEL is enough", x.reply(0, 1, 180), 0);
    }

    private static void success() {
        ForkedInvites x = Checks.calling(1, 3, 4, 5, 6);
        x.reply(0, 2, 100);
        x.reply(0, 3, 100);
        Checks.due("9: 299", x.reply(0, 1, 299), 3);
        Checks.latest("9: the code, then CANCELs in order", x, Checks.message(0, 0, Checks.TO_CALLER, 299),
            Checks.message(0, 0, 2, CANCEL), Checks.message(0, 0, 3, CANCEL));
        Checks.due("16: ended", x.branch(0, 1), 4 + 16 * 4);
        Checks.due("17: the result", x.result(0, 1), 299);
        Checks.due("16: calling, wanted to end", x.branch(0, 0), 1 + 8 + 16 * 3);
        Checks.due("16: proceeding, wanted to end", x.branch(0, 2), 2 + 8 + 16 * 5);
        Checks.due("15: answered, with the latest code that is no success", x.server(0), 4 + 8 * 100);
        Checks.due("18: live", x.live(), 4);
    }

    private static void successAfterFailure() {
        ForkedInvites x = Checks.calling(1, 3, 4);
        x.reply(0, 0, 486);
        Checks.due("9: a success at a completed branch", x.reply(0, 0, 200), 1);
        Checks.due("15: it answers the call", x.server(0), 4 + 8 * 100);
        Checks.due("16: it stays completed", x.branch(0, 0), 3 + 16 * 3);
        Checks.due("17: with its result", x.result(0, 0), 486);
        Checks.due("16: the other is wanted to end", x.branch(0, 1), 1 + 8 + 16 * 4);
        Checks.due("9: the last failure", x.reply(0, 1, 487), 1);
        Checks.due("15: answers no more", x.server(0), 4 + 8 * 100);
    }

    private static void successTwice() {
        ForkedInvites x = Checks.calling(1, 3, 4);
        x.reply(0, 0, 200);
        Checks.due("9: again", x.reply(0, 0, 202), 1);
        Checks.latest("9: again", x, Checks.message(0, 0, Checks.TO_CALLER, 202));
        Checks.due("17: the first result stays", x.result(0, 0), 200);
        Checks.due("9: of the other", x.reply(0, 1, 201), 1);
        Checks.due("17: the other's result", x.result(0, 1), 201);
        Checks.due("16: the other ended, marked", x.branch(0, 1), 4 + 8 + 16 * 4);
        x.tick(63);
        Checks.due("9: until L", x.reply(0, 0, 200), 1);
        x.tick(1);
        Checks.due("9: after L", x.reply(0, 0, 200), NONE);
    }

    private static void failure() {
        ForkedInvites x = Checks.calling(1, 3, 4);
        Checks.due("9: 300", x.reply(0, 0, 300), 1);
        Checks.latest("9: an ACK", x, Checks.message(0, 0, 0, ACK));
        Checks.due("16: completed", x.branch(0, 0), 3 + 16 * 3);
        Checks.due("17: the result", x.result(0, 0), 300);
        Checks.due("9: it again", x.reply(0, 0, 599), 1);
        Checks.latest("9: an ACK again", x, Checks.message(0, 0, 0, ACK));
        Checks.due("17: the first result stays", x.result(0, 0), 300);
        Checks.due("9: 600 again cancels none", x.reply(0, 0, 600), 1);
        Checks.due("16: the other is calling", x.branch(0, 1), 1 + 16 * 4);
        Checks.due("9: a provisional code after it", x.reply(0, 0, 180), 0);
        Checks.due("16: still completed", x.branch(0, 0), 3 + 16 * 3);
        Checks.due("9: 599 of the other", x.reply(0, 1, 599), 2);
        Checks.latest("9: the ACK first", x, Checks.message(0, 0, 1, ACK), Checks.message(0, 0, Checks.TO_CALLER, 300));
        x = Checks.calling(1, 3, 4);
        x.reply(0, 1, 180);
        Checks.due("9: 599 while the other rings", x.reply(0, 0, 599), 1);
        Checks.due("16: 599 cancels none", x.branch(0, 1), 2 + 16 * 4);
    }

    private static void failureOf600() {
        ForkedInvites x = Checks.calling(1, 3, 4, 5, 6);
        x.reply(0, 0, 180);
        x.reply(0, 1, 404);
        x.reply(0, 3, 180);
        Checks.due("9: 600", x.reply(0, 2, 600), 3);
        Checks.latest("9: the ACK first", x, Checks.message(0, 0, 2, ACK), Checks.message(0, 0, 0, CANCEL), Checks.message(0, 0, 3, CANCEL));
        Checks.due("16: itself is not marked", x.branch(0, 2), 3 + 16 * 5);
        Checks.due("16: completed ones are not marked", x.branch(0, 1), 3 + 16 * 4);
        Checks.due("16: marked", x.branch(0, 0), 2 + 8 + 16 * 3);
        Checks.due("15: the server waits", x.server(0), 1 + 8 * 180);
        x.reply(0, 0, 487);
        Checks.due("9: the last", x.reply(0, 3, 603), 2);
        Checks.due("15: the first of 600", x.server(0), 2 + 8 * 600);
    }

    private static void repliesToAnEndedBranch() {
        ForkedInvites x = Checks.calling(1, 3, 4);
        x.reply(0, 1, 180);
        x.tick(64);
        Checks.due("16: ended by B", x.branch(0, 0), 4 + 16 * 3);
        Checks.due("9: provisional", x.reply(0, 0, 180), 0);
        Checks.due("9: failure", x.reply(0, 0, 600), 0);
        Checks.due("16: the other is not marked", x.branch(0, 1), 2 + 16 * 4);
        Checks.due("9: success", x.reply(0, 0, 200), 2);
        Checks.due("17: the result stays", x.result(0, 0), 408);
        Checks.due("15: answered all the same", x.server(0), 4 + 8 * 180);
        Checks.due("16: the other is cancelled", x.branch(0, 1), 2 + 8 + 16 * 4);
    }

    private static void cancel() {
        ForkedInvites x = Checks.calling(1, 3, 4, 5);
        Checks.due("11: cancel(1), not in use", x.cancel(1), NONE);
        Checks.due("11: cancel(-1)", x.cancel(-1), NONE);
        Checks.due("11: cancel(4)", x.cancel(4), NONE);
        x.reply(0, 0, 100);
        x.reply(0, 1, 100);
        x.reply(0, 2, 404);
        Checks.due("11: cancel(0)", x.cancel(0), 2);
        Checks.latest("11: in their order", x, Checks.message(0, 0, 0, CANCEL), Checks.message(0, 0, 1, CANCEL));
        Checks.due("16: marked", x.branch(0, 0), 2 + 8 + 16 * 3);
        Checks.due("16: completed, not marked", x.branch(0, 2), 3 + 16 * 5);
        Checks.due("15: the server waits", x.server(0), 1 + 8 * 100);
        Checks.due("11: again", x.cancel(0), 0);
        x.reply(0, 0, 487);
        Checks.due("9: 487 of the last", x.reply(0, 1, 487), 2);
        Checks.due("15: the first result", x.server(0), 2 + 8 * 404);
        Checks.due("11: nothing is left to cancel", x.cancel(0), 0);
        x = Checks.calling(1, 3, 4);
        x.reply(0, 0, 200);
        Checks.due("11: answered", x.cancel(0), 0);
    }

    private static void cancelWhileCalling() {
        ForkedInvites x = Checks.calling(1, 3);
        Checks.due("11: calling", x.cancel(0), 0);
        Checks.due("16: marked", x.branch(0, 0), 1 + 8 + 16 * 3);
        Checks.due("13: INVITEs go on", x.tick(1), 1);
        Checks.due("9: 100 lets the CANCEL go", x.reply(0, 0, 100), 1);
        Checks.latest("9: CANCEL", x, Checks.message(1, 0, 0, CANCEL));
        x = Checks.calling(1, 3);
        x.cancel(0);
        Checks.due("9: 180 does too", x.reply(0, 0, 180), 2);
        Checks.latest("9: the code first", x, Checks.message(0, 0, Checks.TO_CALLER, 180), Checks.message(0, 0, 0, CANCEL));
        Checks.due("16: marked, proceeding", x.branch(0, 0), 2 + 8 + 16 * 3);
        x = Checks.calling(1, 3);
        x.cancel(0);
        Checks.due("13: B all the same: six INVITEs, one answer", x.tick(64), 7);
        Checks.due("17: 408", x.result(0, 0), 408);
    }

    private static void cancelled() {
        ForkedInvites x = Checks.calling(1, 3, 4);
        Checks.due("10: no CANCEL was sent", x.cancelled(0, 0), false);
        x.reply(0, 0, 100);
        x.cancel(0);
        Checks.due("10: cancelled(1, 0), not in use", x.cancelled(1, 0), false);
        Checks.due("10: cancelled(-1, 0)", x.cancelled(-1, 0), false);
        Checks.due("10: cancelled(4, 0)", x.cancelled(4, 0), false);
        Checks.due("10: cancelled(0, -1)", x.cancelled(0, -1), false);
        Checks.due("10: cancelled(0, 2)", x.cancelled(0, 2), false);
        Checks.due("10: still calling", x.cancelled(0, 1), false);
        x.reply(0, 1, 486);
        Checks.due("10: E goes off", x.cancelled(0, 0), true);
        Checks.due("10: E is off", x.cancelled(0, 0), false);
        Checks.due("13: no CANCEL again", x.tick(63), 0);
        Checks.due("16: F is not off", x.branch(0, 0), 2 + 8 + 16 * 3);
        x.tick(1);
        Checks.due("16: F", x.branch(0, 0), 4 + 8 + 16 * 3);
        x = Checks.calling(1, 3);
        x.reply(0, 0, 100);
        x.cancel(0);
        x.tick(20);
        Checks.due("10: E was set again and again", x.cancelled(0, 0), true);
        x = Checks.calling(1, 3);
        x.reply(0, 0, 100);
        x.cancel(0);
        x.reply(0, 0, 487);
        Checks.due("10: completed, so E is off", x.cancelled(0, 0), false);
    }

    private static void lostInvites() {
        ForkedInvites x = Checks.calling(3, 5);
        int[] due = {3, 9, 21, 45, 93, 189};
        int now = 0;
        for (int at : due) {
            Checks.due("13: before A at " + at, x.tick(at - now - 1), 0);
            Checks.due("13: A at " + at, x.tick(1), 1);
            Checks.latest("13: A", x, Checks.message(at, 0, 0, INVITE));
            now = at;
        }
        Checks.due("13: until B", x.tick(2), 0);
        Checks.due("16: still calling", x.branch(0, 0), 1 + 16 * 5);
    }

    private static void nobodyThere() {
        ForkedInvites x = Checks.calling(2, 5, 6);
        x.reply(0, 1, 486);
        x.tick(127);
        Checks.due("16: before B", x.branch(0, 0), 1 + 16 * 5);
        Checks.due("13: B", x.tick(1), 1);
        Checks.due("16: ended", x.branch(0, 0), 4 + 16 * 5);
        Checks.due("17: 408", x.result(0, 0), 408);
        Checks.latest("13: the best at once", x, Checks.message(128, 0, Checks.TO_CALLER, 486));
    }

    private static void ringsTooLong() {
        ForkedInvites x = Checks.calling(2, 5, 6);
        x.reply(0, 0, 100);
        x.reply(0, 1, 486);
        Checks.due("13: until C", x.tick(399), 0);
        Checks.due("16: proceeding", x.branch(0, 0), 2 + 16 * 5);
        Checks.due("13: C", x.tick(1), 1);
        Checks.latest("13: C cancels", x, Checks.message(400, 0, 0, CANCEL));
        Checks.due("16: marked", x.branch(0, 0), 2 + 8 + 16 * 5);
        Checks.due("13: E follows", x.tick(2), 1);
    }

    private static void ringsAnew() {
        ForkedInvites x = Checks.calling(1, 5);
        x.reply(0, 0, 180);
        x.tick(150);
        x.reply(0, 0, 100);
        x.tick(49);
        Checks.due("9: 101 sets C anew, 100 did not", x.reply(0, 0, 101), 1);
        Checks.due("13: until the new C", x.tick(199), 0);
        Checks.due("13: the new C", x.tick(1), 1);
        Checks.latest("13: the new C", x, Checks.message(399, 0, 0, CANCEL));
        x.cancelled(0, 0);
        Checks.due("9: 180 after the CANCEL", x.reply(0, 0, 180), 1);
        Checks.due("13: until F", x.tick(63), 0);
        Checks.due("13: F answers the caller", x.tick(1), 1);
        Checks.latest("13: 408", x, Checks.message(463, 0, Checks.TO_CALLER, 408));
    }

    private static void noCancelBeforeAnything() {
        ForkedInvites x = Checks.calling(1, 5);
        x.tick(10);
        x.reply(0, 0, 100);
        Checks.due("13: 100 leaves C as it was", x.tick(189), 0);
        Checks.due("13: C from the beginning", x.tick(1), 1);
        Checks.latest("13: C", x, Checks.message(200, 0, 0, CANCEL));
    }

    private static void lostCancels() {
        ForkedInvites x = Checks.calling(2, 5, 6);
        x.reply(0, 0, 100);
        x.reply(0, 1, 100);
        x.reply(0, 1, 480);
        x.tick(10);
        x.cancel(0);
        int[] due = {2, 6, 14, 30, 46, 62, 78, 94, 110, 126};
        int now = 0;
        for (int at : due) {
            Checks.due("13: before E at " + at, x.tick(at - now - 1), 0);
            Checks.due("13: E at " + at, x.tick(1), 1);
            Checks.latest("13: E", x, Checks.message(10 + at, 0, 0, CANCEL));
            now = at;
        }
        Checks.due("13: until F", x.tick(1), 0);
        Checks.due("13: F", x.tick(1), 1);
        Checks.due("16: ended", x.branch(0, 0), 4 + 8 + 16 * 5);
        Checks.due("17: 408", x.result(0, 0), 408);
        Checks.due("15: the first result", x.server(0), 2 + 8 * 480);
    }

    private static void completedBranchEnds() {
        ForkedInvites x = Checks.calling(2, 5, 6);
        x.reply(0, 1, 180);
        x.tick(5);
        x.reply(0, 0, 486);
        x.tick(127);
        Checks.due("16: before D", x.branch(0, 0), 3 + 16 * 5);
        Checks.due("9: the last ACK", x.reply(0, 0, 486), 1);
        Checks.due("13: D sends nothing", x.tick(1), 0);
        Checks.due("16: ended", x.branch(0, 0), 4 + 16 * 5);
        Checks.due("17: the result stays", x.result(0, 0), 486);
        Checks.due("18: live", x.live(), 2);
        Checks.due("9: no ACK any more", x.reply(0, 0, 486), 0);
    }
}
