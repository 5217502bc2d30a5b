/** Promise 8: invite; and what promises 15, 16, 18, 19 and 20 show of it. */
public final class InviteTest {
    private static final int NONE = ForkedInvites.NONE;
    private static final int INVITE = ForkedInvites.INVITE;

    public static void main(String[] args) {
        noSuchCall();
        refusals();
        orderOfRefusals();
        forks();
        endedBindingsAreNotCalled();
        callInUseIsToldAgain();
        tooManyTransactions();
        refusalNeedsOneTransaction();
        callIsUsedAgain();
        Checks.end();
    }

    private static void noSuchCall() {
        ForkedInvites x = Checks.placed(1, 3);
        Checks.due("8: invite(-1, ..)", x.invite(-1, 1, 1, 0), NONE);
        Checks.due("8: invite(4, ..)", x.invite(4, 1, 1, 0), NONE);
        Checks.due("8: nothing was sent", x.sent(), 0);
        Checks.due("8: nothing lives", x.live(), 0);
    }

    private static void refusals() {
        refused("no hops", 1, 0, 0, 483);
        refused("hops below 0", 1, Integer.MIN_VALUE, 0, 483);
        refused("user -1", -1, 1, 0, 404);
        refused("user 4", 4, 1, 0, 404);
        refused("user 33", 33, 1, 0, 404);
        refused("been there", 1, 1, 2, 482);
        refused("been everywhere", 1, 1, -1, 482);
        refused("no binding", 2, 1, 0, 480);
    }

    private static void refused(String what, int user, int hops, int via, int code) {
        ForkedInvites x = Checks.placed(1, 3);
        Checks.due("8: " + what, x.invite(2, user, hops, via), 1);
        Checks.due("8: " + what + ": server", x.server(2), 2 + 8 * code);
        Checks.due("8: " + what + ": no branch", x.branch(2, 0), 0);
        Checks.due("8: " + what + ": live", x.live(), 1);
        Checks.latest("8: " + what, x, Checks.message(0, 2, Checks.TO_CALLER, code));
    }

    private static void orderOfRefusals() {
        refused("483 before 404", 9, 0, -1, 483);
        refused("483 before 482", 1, 0, 2, 483);
        refused("404 before 482", 4, 1, 16, 404);
        refused("482 before 480", 2, 1, 4, 482);
    }

    private static void forks() {
        ForkedInvites x = Checks.placed(1, 3, 15);
        Checks.register(x, 1, 0, 9, 5000, 0);
        Checks.due("8: three places, the bits of others set", x.invite(3, 1, 1, ~2), 4);
        Checks.due("15: proceeding", x.server(3), 1 + 8 * 100);
        Checks.due("16: the greatest weight first", x.branch(3, 0), 1);
        Checks.due("16: then as added", x.branch(3, 1), 1 + 16 * 3);
        Checks.due("16: then as added", x.branch(3, 2), 1 + 16 * 15);
        Checks.due("16: no fourth", x.branch(3, 3), 0);
        Checks.due("17: no result yet", x.result(3, 0), 0);
        Checks.due("18: live", x.live(), 4);
        Checks.latest("8: 100 first", x, Checks.message(0, 3, Checks.TO_CALLER, 100),
            Checks.message(0, 3, 0, INVITE), Checks.message(0, 3, 1, INVITE), Checks.message(0, 3, 2, INVITE));
        Checks.register(x, 1, -1, 0, 0, 1);
        Checks.due("16: branches outlive the bindings", x.branch(3, 2), 1 + 16 * 15);
    }

    private static void endedBindingsAreNotCalled() {
        ForkedInvites x = new ForkedInvites(1, 5);
        Checks.register(x, 1, 3, 5, 10, 0);
        Checks.register(x, 1, 4, 5, 11, 0);
        x.tick(10);
        Checks.due("8: one has ended", x.invite(0, 1, 1, 0), 2);
        Checks.due("16: the other is called", x.branch(0, 0), 1 + 16 * 4);
        x.tick(1);
        Checks.due("8: both have ended", x.invite(1, 1, 1, 0), 1);
        Checks.due("15: both have ended", x.server(1), 2 + 8 * 480);
    }

    private static void callInUseIsToldAgain() {
        ForkedInvites x = Checks.calling(1, 3);
        Checks.due("8: 100 again, whatever else is given", x.invite(0, 9, 0, -1), 1);
        Checks.latest("8: 100 again", x, Checks.message(0, 0, Checks.TO_CALLER, 100));
        x.reply(0, 0, 183);
        Checks.due("8: 183 again", x.invite(0, 1, 1, 0), 1);
        Checks.latest("8: 183 again", x, Checks.message(0, 0, Checks.TO_CALLER, 183));
        x.reply(0, 0, 486);
        Checks.due("8: 486 again", x.invite(0, 1, 1, 0), 1);
        Checks.latest("8: 486 again", x, Checks.message(0, 0, Checks.TO_CALLER, 486));
        x.reply(0, 0, 200);
        Checks.due("8: completed, the success is not repeated", x.invite(0, 1, 1, 0), 1);
        Checks.latest("8: 486 once more", x, Checks.message(0, 0, Checks.TO_CALLER, 486));
        x.ack(0);
        Checks.due("8: confirmed", x.invite(0, 1, 1, 0), 0);
        x.tick(8);
        Checks.due("15: ended, but a branch is not", x.server(0), 5 + 8 * 486);
        Checks.due("8: ended", x.invite(0, 1, 1, 0), 0);
        x = Checks.calling(1, 3);
        x.reply(0, 0, 200);
        Checks.due("8: answered", x.invite(0, 1, 1, 0), 0);
    }

    private static void tooManyTransactions() {
        ForkedInvites x = Checks.placed(1, 1, 2, 3, 4);
        Checks.register(x, 0, 1, 5, 5000, 0);
        Checks.due("8: five", x.invite(0, 1, 1, 0), 5);
        Checks.due("8: ten", x.invite(1, 1, 1, 0), 5);
        Checks.due("8: fifteen are too many", x.invite(2, 1, 1, 0), 1);
        Checks.latest("8: 503", x, Checks.message(0, 2, Checks.TO_CALLER, 503));
        Checks.due("15: not in use", x.server(2), 0);
        Checks.due("18: live", x.live(), 10);
        Checks.register(x, 2, 1, 5, 5000, 0);
        Checks.register(x, 2, 2, 5, 5000, 0);
        Checks.due("8: thirteen are too many", x.invite(2, 2, 1, 0), 1);
        Checks.due("15: not in use", x.server(2), 0);
        Checks.due("8: twelve are not", x.invite(3, 0, 1, 0), 2);
        Checks.due("18: live", x.live(), 12);
        Checks.due("8: thirteen, for a refusal", x.invite(2, 1, 0, 0), 1);
        Checks.latest("8: 503 instead of 483", x, Checks.message(0, 2, Checks.TO_CALLER, 503));
        Checks.due("8: a call in use needs none", x.invite(3, 0, 1, 0), 1);
        Checks.latest("8: 100 again", x, Checks.message(0, 3, Checks.TO_CALLER, 100));
        Checks.due("8: no timer sends 503 again", x.tick(1), 9);
    }

    private static void refusalNeedsOneTransaction() {
        ForkedInvites x = Checks.placed(1, 1, 2, 3, 4);
        x.invite(0, 1, 1, 0);
        x.invite(1, 1, 1, 0);
        Checks.due("8: the eleventh", x.invite(2, 1, 0, 0), 1);
        Checks.due("15: refused", x.server(2), 2 + 8 * 483);
        Checks.due("8: the twelfth", x.invite(3, 3, 1, 0), 1);
        Checks.due("15: refused", x.server(3), 2 + 8 * 480);
        Checks.due("18: live", x.live(), 12);
    }

    private static void callIsUsedAgain() {
        ForkedInvites x = Checks.calling(1, 3, 4);
        x.reply(0, 0, 180);
        x.cancel(0);
        x.tick(2000);
        Checks.due("18: all ended", x.live(), 0);
        Checks.due("8: the same call anew", x.invite(0, 1, 1, 0), 3);
        Checks.due("15: anew", x.server(0), 1 + 8 * 100);
        Checks.due("16: unmarked", x.branch(0, 0), 1 + 16 * 3);
        Checks.due("17: without a result", x.result(0, 0), 0);
        x.reply(0, 0, 100);
        Checks.due("11: a CANCEL can be sent anew", x.cancel(0), 1);
        Checks.due("9: the other one's CANCEL", x.reply(0, 1, 100), 1);
        x.tick(2000);
        Checks.due("8: with no branches now", x.invite(0, 1, 0, 0), 1);
        Checks.due("16: the branches are gone", x.branch(0, 0), 0);
        Checks.due("18: live", x.live(), 1);
    }
}
