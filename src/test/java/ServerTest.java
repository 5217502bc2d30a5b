/** Promises 12, 13, 14 and 15: ack, tick, now, server; the timers G, H, I, L and the order within a tick. */
public final class ServerTest {
    private static final int NONE = ForkedInvites.NONE;
    private static final int INVITE = ForkedInvites.INVITE;
    private static final int CANCEL = ForkedInvites.CANCEL;

    public static void main(String[] args) {
        ack();
        ticks();
        noSuchServer();
        lostAnswers();
        confirmedEnds();
        answeredEnds();
        orderWithinATick();
        serverBeforeBranches();
        Checks.end();
    }

    private static void ack() {
        ForkedInvites x = Checks.calling(2, 3);
        Checks.due("12: ack(-1)", x.ack(-1), false);
        Checks.due("12: ack(4)", x.ack(4), false);
        Checks.due("12: not in use", x.ack(1), false);
        Checks.due("12: proceeding", x.ack(0), false);
        Checks.due("15: still proceeding", x.server(0), 1 + 8 * 100);
        x.reply(0, 0, 486);
        Checks.due("12: completed", x.ack(0), true);
        Checks.due("15: confirmed", x.server(0), 3 + 8 * 486);
        Checks.due("12: confirmed", x.ack(0), false);
        Checks.due("13: G is off", x.tick(15), 0);
        Checks.due("15: before I", x.server(0), 3 + 8 * 486);
        x.tick(1);
        Checks.due("15: I", x.server(0), 5 + 8 * 486);
        Checks.due("12: ended", x.ack(0), false);
        x = Checks.calling(1, 3);
        x.reply(0, 0, 200);
        Checks.due("12: answered", x.ack(0), false);
        Checks.due("15: still answered", x.server(0), 4 + 8 * 100);
    }

    private static void ticks() {
        ForkedInvites x = new ForkedInvites(1, 5);
        Checks.due("13: tick(-1)", x.tick(-1), NONE);
        Checks.due("13: tick(2001)", x.tick(2001), NONE);
        Checks.due("13: tick(least)", x.tick(Integer.MIN_VALUE), NONE);
        Checks.due("13: tick(most)", x.tick(Integer.MAX_VALUE), NONE);
        Checks.due("14: no tick", x.now(), 0);
        Checks.due("13: tick(0)", x.tick(0), 0);
        Checks.due("14: still none", x.now(), 0);
        Checks.due("13: tick(2000)", x.tick(2000), 0);
        Checks.due("13: tick(1)", x.tick(1), 0);
        Checks.due("14: now", x.now(), 2001);
        x.invite(0, 0, 0, 0);
        Checks.due("13: a wrong tick while a timer waits", x.tick(2001), NONE);
        Checks.due("13: how many were sent in it", x.tick(3), 2);
        Checks.due("13: none in no tick", x.tick(0), 0);
        Checks.due("19: in all", x.sent(), 3);
    }

    private static void noSuchServer() {
        ForkedInvites x = Checks.calling(1, 3);
        Checks.due("15: server(-1)", x.server(-1), 0);
        Checks.due("15: server(4)", x.server(4), 0);
        Checks.due("15: server(1)", x.server(1), 0);
        Checks.due("16: branch(-1, 0)", x.branch(-1, 0), 0);
        Checks.due("16: branch(4, 0)", x.branch(4, 0), 0);
        Checks.due("16: branch(1, 0)", x.branch(1, 0), 0);
        Checks.due("16: branch(0, -1)", x.branch(0, -1), 0);
        Checks.due("16: branch(0, 1)", x.branch(0, 1), 0);
        Checks.due("16: branch(0, 4)", x.branch(0, 4), 0);
        x.reply(0, 0, 486);
        Checks.due("17: result(0, 0)", x.result(0, 0), 486);
        Checks.due("17: result(-1, 0)", x.result(-1, 0), 0);
        Checks.due("17: result(4, 0)", x.result(4, 0), 0);
        Checks.due("17: result(1, 0)", x.result(1, 0), 0);
        Checks.due("17: result(0, -1)", x.result(0, -1), 0);
        Checks.due("17: result(0, 1)", x.result(0, 1), 0);
        Checks.due("17: result(0, 4)", x.result(0, 4), 0);
        x.tick(64);
        Checks.due("15: not in use any more", x.server(0), 0);
        Checks.due("16: not in use any more", x.branch(0, 0), 0);
        Checks.due("17: not in use any more", x.result(0, 0), 0);
    }

    private static void lostAnswers() {
        ForkedInvites x = new ForkedInvites(3, 5);
        x.tick(1);
        x.invite(2, 0, 0, 0);
        int[] due = {3, 9, 21, 45, 69, 93, 117, 141, 165, 189};
        int now = 0;
        for (int at : due) {
            Checks.due("13: before G at " + at, x.tick(at - now - 1), 0);
            Checks.due("13: G at " + at, x.tick(1), 1);
            Checks.latest("13: G", x, Checks.message(1 + at, 2, Checks.TO_CALLER, 483));
            now = at;
        }
        Checks.due("13: until H", x.tick(2), 0);
        Checks.due("15: completed", x.server(2), 2 + 8 * 483);
        Checks.due("13: H", x.tick(1), 0);
        Checks.due("15: not in use", x.server(2), 0);
        Checks.due("13: G is off", x.tick(100), 0);
    }

    private static void confirmedEnds() {
        ForkedInvites x = new ForkedInvites(2, 5);
        x.invite(0, 0, 0, 0);
        x.tick(120);
        Checks.due("12: late", x.ack(0), true);
        x.tick(15);
        Checks.due("15: H is off", x.server(0), 3 + 8 * 483);
        x.tick(1);
        Checks.due("15: I", x.server(0), 0);
        Checks.due("18: live", x.live(), 0);
    }

    private static void answeredEnds() {
        ForkedInvites x = Checks.calling(2, 3, 4);
        x.reply(0, 1, 180);
        x.reply(0, 0, 200);
        x.tick(100);
        Checks.due("9: a success again does not set L anew", x.reply(0, 0, 200), 1);
        x.tick(27);
        Checks.due("15: before L", x.server(0), 4 + 8 * 180);
        Checks.due("18: with the cancelled branch", x.live(), 2);
        x.tick(1);
        Checks.due("15: L, and F of the branch", x.server(0), 0);
        x = Checks.calling(1, 3, 4);
        x.reply(0, 0, 200);
        x.tick(10);
        x.reply(0, 1, 100);
        x.tick(54);
        Checks.due("15: L, before F", x.server(0), 5 + 8 * 100);
        Checks.due("18: only the branch", x.live(), 1);
        Checks.due("9: a success is sent on, though the server ended", x.reply(0, 0, 200), 1);
        x.tick(10);
        Checks.due("15: F", x.server(0), 0);
        Checks.due("18: F changes nothing else", x.live(), 0);
    }

    private static void orderWithinATick() {
        ForkedInvites x = Checks.placed(1, 3, 4);
        x.invite(1, 1, 1, 0);
        x.invite(3, 1, 0, 0);
        x.invite(0, 1, 1, 0);
        x.reply(0, 0, 100);
        x.cancel(0);
        Checks.due("13: five are due", x.tick(1), 5);
        Checks.latest("13: by call, then by branch", x,
            Checks.message(1, 0, 0, CANCEL), Checks.message(1, 0, 1, INVITE),
            Checks.message(1, 1, 0, INVITE), Checks.message(1, 1, 1, INVITE),
            Checks.message(1, 3, Checks.TO_CALLER, 483));
    }

    private static void serverBeforeBranches() {
        ForkedInvites x = Checks.calling(1, 3, 4);
        x.reply(0, 0, 404);
        x.tick(63);
        Checks.due("13: B of one, the server answers at once", x.tick(1), 1);
        Checks.due("15: completed", x.server(0), 2 + 8 * 404);
        Checks.due("16: D of the other in the same tick", x.branch(0, 0), 4 + 16 * 3);
        Checks.due("13: G from the next tick on", x.tick(1), 1);
        Checks.latest("13: G", x, Checks.message(65, 0, Checks.TO_CALLER, 404));
    }
}
