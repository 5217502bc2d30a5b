/** Promises 13 to 20, the order within a tick and the log: each sentence that names a boundary, by itself. */
public final class TickAndLookEdgesTest {
    private static final int NONE = ForkedInvites.NONE;
    private static final int LEAST = Integer.MIN_VALUE;
    private static final int MOST = Integer.MAX_VALUE;
    private static final int INVITE = ForkedInvites.INVITE;
    private static final int CANCEL = ForkedInvites.CANCEL;
    private static final int ACK = ForkedInvites.ACK;
    private static final int TO_CALLER = Checks.TO_CALLER;

    public static void main(String[] args) {
        tickAtItsBounds();
        ticksInOneCallOrInMany();
        tickCountsTheMessages();
        callsInTheirOrder();
        branchesInTheirOrder();
        whatFollowsComesAtOnce();
        timersSetInATickAreNotDueInIt();
        aCallThatEndedHasNoTimers();
        nowGrowsByTicksAlone();
        serverOfNoCall();
        serverKeepsTheLatestCode();
        branchOfNoCall();
        branchTellsMarkAndContact();
        resultOfNoCall();
        resultOfATimer();
        liveOfNoneToTwelve();
        sentCountsEverything();
        messageOfNone();
        messageAtSixtyFour();
        messageWrapsAround();
        messageTellsAllItsParts();
        messageOfALateTick();
        Checks.end();
    }

    /** 13: "n from 0 to 2000 .. NONE, with no tick, for another n." */
    private static void tickAtItsBounds() {
        for (int n : new int[] {LEAST, -1, 2001, MOST}) {
            ForkedInvites x = new ForkedInvites(1, 5);
            x.invite(0, 0, 0, 0);
            Checks.due("13: tick(" + n + ")", x.tick(n), NONE);
            Checks.due("14: no tick", x.now(), 0);
            Checks.due("19: nothing was sent", x.sent(), 1);
        }
        int[][] taken = {{0, 0}, {1, 1}, {2, 1}, {3, 2}, {1999, 10}, {2000, 10}};
        for (int[] t : taken) {
            ForkedInvites x = new ForkedInvites(1, 5);
            x.invite(0, 0, 0, 0);
            Checks.due("13: tick(" + t[0] + ")", x.tick(t[0]), t[1]);
            Checks.due("14: now", x.now(), t[0]);
        }
    }

    /** 13: "n ticks": the same as n times one tick, a timer in the first and the last of them as well. */
    private static void ticksInOneCallOrInMany() {
        ForkedInvites one = Checks.calling(3, 3, 4);
        ForkedInvites many = Checks.calling(3, 3, 4);
        one.reply(0, 0, 180);
        many.reply(0, 0, 180);
        int sent = 0;
        for (int i = 0; i < 192; i++) {
            sent += many.tick(1);
        }
        Checks.due("13: as many messages", one.tick(192), sent);
        Checks.due("14: the same time", one.now(), many.now());
        Checks.due("16: B in the last tick", one.branch(0, 1), 4 + 16 * 4);
        for (int k = 0; k < 16; k++) {
            Checks.due("20: message(" + k + ")", one.message(k), many.message(k));
        }
    }

    /** 13: "Answers how many messages were sent": in it, not before it. */
    private static void tickCountsTheMessages() {
        ForkedInvites x = Checks.calling(1, 1, 2, 3, 4);
        Checks.due("13: none", x.tick(0), 0);
        Checks.due("13: four", x.tick(1), 4);
        Checks.due("13: none", x.tick(1), 0);
        Checks.due("13: eight", x.tick(5), 8);
        Checks.due("19: in all", x.sent(), 17);
    }

    /** "for the calls 0, 1, .. in use": not in the order in which they began. */
    private static void callsInTheirOrder() {
        ForkedInvites x = Checks.placed(1, 3);
        x.invite(3, 1, 0, 0);
        x.invite(2, 1, 1, 0);
        x.invite(0, 1, 1, 0);
        x.invite(1, 1, 0, 0);
        Checks.due("13: one of each", x.tick(1), 4);
        Checks.latest("13: in their order", x, Checks.message(1, 0, 0, INVITE), Checks.message(1, 1, TO_CALLER, 483),
            Checks.message(1, 2, 0, INVITE), Checks.message(1, 3, TO_CALLER, 483));
    }

    /** "then for each branch in its order A, B, C, D, E, F". */
    private static void branchesInTheirOrder() {
        ForkedInvites x = Checks.calling(1, 1, 2, 3, 4);
        x.reply(0, 2, 100);
        x.reply(0, 0, 100);
        x.cancel(0);
        Checks.due("13: one of each", x.tick(1), 4);
        Checks.latest("13: in their order", x, Checks.message(1, 0, 0, CANCEL), Checks.message(1, 0, 1, INVITE),
            Checks.message(1, 0, 2, CANCEL), Checks.message(1, 0, 3, INVITE));
        x = Checks.calling(1, 1, 2, 3, 4);
        for (int k = 3; k >= 0; k--) {
            x.reply(0, k, 180);
        }
        Checks.due("13: C of each", x.tick(200), 4);
        Checks.latest("13: in their order", x, Checks.message(200, 0, 0, CANCEL), Checks.message(200, 0, 1, CANCEL),
            Checks.message(200, 0, 2, CANCEL), Checks.message(200, 0, 3, CANCEL));
    }

    /** "does what is said there (at once, with all that follows)": the answer of call 0 before the INVITE of call 1. */
    private static void whatFollowsComesAtOnce() {
        ForkedInvites x = Checks.placed(1, 3);
        x.invite(0, 1, 1, 0);
        x.tick(1);
        x.invite(1, 1, 1, 0);
        x.tick(62);
        Checks.due("13: B of call 0, A of call 1", x.tick(1), 2);
        Checks.latest("13: the answer first", x, Checks.message(64, 0, TO_CALLER, 408), Checks.message(64, 1, 0, INVITE));
        Checks.due("13: G of call 0, B of call 1", x.tick(1), 2);
        Checks.latest("13: in their order", x, Checks.message(65, 0, TO_CALLER, 408), Checks.message(65, 1, TO_CALLER, 408));
    }

    private static void timersSetInATickAreNotDueInIt() {
        ForkedInvites x = Checks.calling(1, 3);
        x.reply(0, 0, 100);
        Checks.due("13: C sends one CANCEL", x.tick(200), 1);
        Checks.due("13: E one tick later", x.tick(1), 1);
        Checks.due("13: F answers once", x.tick(63) - 9, 1);
        Checks.due("13: G one tick later", x.tick(1), 1);
        Checks.due("15: completed", x.server(0), 2 + 8 * 408);
    }

    private static void aCallThatEndedHasNoTimers() {
        ForkedInvites x = Checks.calling(1, 1, 2, 3, 4);
        x.reply(0, 0, 180);
        x.reply(0, 1, 486);
        x.reply(0, 2, 200);
        x.tick(64);
        Checks.due("18: all ended", x.live(), 0);
        Checks.due("13: nothing more", x.tick(2000), 0);
        x.invite(0, 1, 0, 0);
        Checks.due("13: G of the new server alone", x.tick(2000), 10);
    }

    /** 14: "Now." */
    private static void nowGrowsByTicksAlone() {
        ForkedInvites x = Checks.calling(1, 3);
        x.reply(0, 0, 486);
        x.ack(0);
        Checks.due("14: no call but tick", x.now(), 0);
        x.tick(0);
        Checks.due("14: none", x.now(), 0);
        x.tick(1);
        Checks.due("14: one", x.now(), 1);
        x.tick(2000);
        Checks.due("14: 2000 more", x.now(), 2001);
        x.tick(-1);
        x.tick(2001);
        Checks.due("14: none", x.now(), 2001);
    }

    /** A call that is not in use, in every way. */
    private static int[] noCalls() {
        return new int[] {LEAST, -1, 1, 3, 4, MOST};
    }

    /** 15: "0 when call is not in use". */
    private static void serverOfNoCall() {
        ForkedInvites x = Checks.calling(1, 3);
        for (int call : noCalls()) {
            Checks.due("15: server(" + call + ")", x.server(call), 0);
        }
        Checks.due("15: in use", x.server(0), 1 + 8 * 100);
        x.tick(128);
        Checks.due("15: no more in use", x.server(0), 0);
    }

    /** 15: "plus 8 times the code that it sent to the caller latest (no success)". */
    private static void serverKeepsTheLatestCode() {
        ForkedInvites x = Checks.calling(1, 3, 4);
        Checks.due("15: 100", x.server(0), 1 + 8 * 100);
        x.reply(0, 0, 101);
        Checks.due("15: 101", x.server(0), 1 + 8 * 101);
        x.reply(0, 1, 199);
        Checks.due("15: 199", x.server(0), 1 + 8 * 199);
        x.reply(0, 1, 699);
        Checks.due("15: not sent yet", x.server(0), 1 + 8 * 199);
        x.reply(0, 0, 300);
        Checks.due("15: 699", x.server(0), 2 + 8 * 699);
        x.reply(0, 0, 299);
        Checks.due("15: no success", x.server(0), 2 + 8 * 699);
        x.ack(0);
        Checks.due("15: confirmed", x.server(0), 3 + 8 * 699);
        x.tick(8);
        Checks.due("15: ended", x.server(0), 5 + 8 * 699);
        x = Checks.calling(1, 3);
        x.reply(0, 0, 503);
        Checks.due("15: 500, as it was sent", x.server(0), 2 + 8 * 500);
    }

    /** 16: "0 when call is not in use or has no such branch". */
    private static void branchOfNoCall() {
        ForkedInvites x = Checks.calling(1, 3, 4);
        for (int call : noCalls()) {
            Checks.due("16: branch(" + call + ", 0)", x.branch(call, 0), 0);
        }
        for (int k : new int[] {LEAST, -1, 2, 3, 4, MOST}) {
            Checks.due("16: branch(0, " + k + ")", x.branch(0, k), 0);
        }
        Checks.due("16: the last", x.branch(0, 1), 1 + 16 * 4);
        x.invite(1, 1, 0, 0);
        Checks.due("16: of a refusal", x.branch(1, 0), 0);
        x.tick(128);
        Checks.due("16: no more in use", x.branch(0, 0), 0);
    }

    /** 16: "plus 8 when it is marked as wanted to end, plus 16 times its contact". */
    private static void branchTellsMarkAndContact() {
        ForkedInvites x = Checks.calling(1, 0, 15);
        Checks.due("16: the least contact", x.branch(0, 0), 1);
        Checks.due("16: the greatest contact", x.branch(0, 1), 1 + 16 * 15);
        x.cancel(0);
        Checks.due("16: marked", x.branch(0, 0), 1 + 8);
        x.reply(0, 0, 100);
        Checks.due("16: proceeding, marked", x.branch(0, 0), 2 + 8);
        x.reply(0, 0, 487);
        Checks.due("16: completed, marked", x.branch(0, 0), 3 + 8);
        x.reply(0, 1, 200);
        Checks.due("16: ended, marked", x.branch(0, 1), 4 + 8 + 16 * 15);
    }

    /** 17: "0 when it has none yet, or call is not in use or has no such branch". */
    private static void resultOfNoCall() {
        ForkedInvites x = Checks.calling(1, 3, 4);
        x.reply(0, 0, 180);
        Checks.due("17: none yet, proceeding", x.result(0, 0), 0);
        Checks.due("17: none yet, calling", x.result(0, 1), 0);
        x.reply(0, 0, 300);
        x.reply(0, 1, 699);
        for (int call : noCalls()) {
            Checks.due("17: result(" + call + ", 0)", x.result(call, 0), 0);
        }
        for (int k : new int[] {LEAST, -1, 2, 3, 4, MOST}) {
            Checks.due("17: result(0, " + k + ")", x.result(0, k), 0);
        }
        Checks.due("17: the first", x.result(0, 0), 300);
        Checks.due("17: the last", x.result(0, 1), 699);
        x.tick(63);
        Checks.due("17: before its end", x.result(0, 0), 300);
        x.tick(1);
        Checks.due("17: no more in use", x.result(0, 0), 0);
        x.invite(0, 1, 1, 0);
        Checks.due("17: none of the call before", x.result(0, 0), 0);
    }

    private static void resultOfATimer() {
        ForkedInvites x = Checks.calling(1, 3, 4);
        x.reply(0, 0, 180);
        x.tick(1);
        x.cancel(0);
        x.tick(62);
        Checks.due("17: before B", x.result(0, 1), 0);
        x.tick(1);
        Checks.due("17: B", x.result(0, 1), 408);
        Checks.due("17: before F", x.result(0, 0), 0);
        x.tick(1);
        Checks.due("17: F", x.result(0, 0), 408);
    }

    /** 18: "How many live transactions there are": none, twelve, and down to none again. */
    private static void liveOfNoneToTwelve() {
        ForkedInvites x = Checks.placed(1, 1, 2, 3, 4);
        Checks.due("18: none", x.live(), 0);
        x.invite(0, 1, 1, 0);
        Checks.due("18: five", x.live(), 5);
        x.invite(1, 1, 1, 0);
        Checks.due("18: ten", x.live(), 10);
        x.invite(2, 1, 0, 0);
        Checks.due("18: eleven", x.live(), 11);
        x.invite(3, 1, 0, 0);
        Checks.due("18: twelve", x.live(), 12);
        x.invite(0, 1, 1, 0);
        Checks.due("18: an INVITE again needs none", x.live(), 12);
        x.reply(0, 0, 200);
        Checks.due("18: a branch ended", x.live(), 11);
        x.reply(0, 0, 200);
        Checks.due("18: ended once", x.live(), 11);
        x.reply(1, 0, 486);
        Checks.due("18: completed", x.live(), 11);
        x.tick(63);
        Checks.due("18: until B, D, H and L", x.live(), 11);
        x.tick(1);
        Checks.due("18: the second server alone", x.live(), 1);
        x.tick(64);
        Checks.due("18: none", x.live(), 0);
    }

    /** 19: "How many messages were sent": to the caller and on branches, by calls and by ticks, beyond what is kept. */
    private static void sentCountsEverything() {
        ForkedInvites x = Checks.placed(1, 3);
        int sent = 0;
        for (int i = 0; i < 100; i++) {
            sent += x.invite(0, 1, 1, 0);
            Checks.due("19: sent", x.sent(), sent);
        }
        Checks.due("19: more than are kept", sent, 101);
        sent += x.tick(64);
        sent += x.reply(0, 0, 200);
        Checks.due("19: with ticks and replies", x.sent(), sent);
        Checks.due("19: with ticks and replies", sent, 101 + 7 + 1);
    }

    /** 20: "NONE when k is not 0 .. 63 or not so many were sent": of none, one and two. */
    private static void messageOfNone() {
        ForkedInvites x = new ForkedInvites(1, 5);
        for (int count = 0; count <= 2; count++) {
            for (int k : new int[] {LEAST, -1, 0, 1, 2, 62, 63, 64, MOST}) {
                long due = k >= 0 && k < count ? Checks.message(0, 2, TO_CALLER, 483) : NONE;
                Checks.due("20: message(" + k + ") of " + count, x.message(k), due);
            }
            x.invite(2, 0, 0, 0);
        }
    }

    /** The same, at 63, 64 and 65 messages. */
    private static void messageAtSixtyFour() {
        ForkedInvites x = Checks.calling(1, 3);
        for (int sent = 3; sent <= 66; sent++) {
            x.reply(0, 0, 100 + sent);
            if (sent >= 63) {
                Checks.due("20: the latest of " + sent, x.message(0), Checks.message(0, 0, TO_CALLER, 100 + sent));
                Checks.due("20: message(62) of " + sent, x.message(62), numbered(sent - 62));
                Checks.due("20: message(63) of " + sent, x.message(63), sent == 63 ? NONE : numbered(sent - 63));
                Checks.due("20: message(64) of " + sent, x.message(64), NONE);
            }
        }
    }

    /** The message of that number, from 1, of a call whose callee sent codes that tell their numbers. */
    private static long numbered(int number) {
        if (number == 1) {
            return Checks.message(0, 0, TO_CALLER, 100);
        }
        return number == 2 ? Checks.message(0, 0, 0, INVITE) : Checks.message(0, 0, TO_CALLER, 100 + number);
    }

    /** The same, when those that are kept went round once, twice and three times. */
    private static void messageWrapsAround() {
        ForkedInvites x = Checks.calling(1, 3);
        for (int sent = 3; sent <= 193; sent++) {
            x.reply(0, 0, 101 + sent % 99);
            if (sent % 64 <= 1 && sent >= 64) {
                for (int k = 0; k <= 60; k += 5) {
                    Checks.due("20: message(" + k + ") of " + sent, x.message(k), Checks.message(0, 0, TO_CALLER, 101 + (sent - k) % 99));
                }
            }
        }
    }

    /** 20: "((tick * 4 + call) * 8 + branch) * 1024 + INVITE, CANCEL, ACK or the code". */
    private static void messageTellsAllItsParts() {
        ForkedInvites x = Checks.placed(1, 1, 2, 3, 4);
        x.tick(5);
        x.invite(3, 1, 1, 0);
        Checks.due("20: INVITE on branch 3 of call 3", x.message(0), ((5 * 4 + 3) * 8 + 3) * 1024 + 1);
        Checks.due("20: INVITE on branch 0", x.message(3), ((5 * 4 + 3) * 8 + 0) * 1024 + 1);
        Checks.due("20: 100 to the caller", x.message(4), ((5 * 4 + 3) * 8 + 7) * 1024 + 100);
        x.reply(3, 1, 100);
        x.cancel(3);
        Checks.due("20: CANCEL", x.message(0), ((5 * 4 + 3) * 8 + 1) * 1024 + 2);
        x.reply(3, 2, 486);
        Checks.due("20: ACK", x.message(0), ((5 * 4 + 3) * 8 + 2) * 1024 + ACK);
        Checks.due("20: ACK is 3", x.message(0) % 1024, 3);
        x.reply(3, 2, 299);
        Checks.due("20: a success", x.message(0), ((5 * 4 + 3) * 8 + 7) * 1024 + 299);
        x.tick(1);
        x.invite(0, 1, 0, 0);
        Checks.due("20: call 0, the next tick", x.message(0), (6 * 4 * 8 + 7) * 1024 + 483);
    }

    /** The last tick whose messages an int could hold, and the next; a message keeps the tick in which it was sent. */
    private static void messageOfALateTick() {
        ForkedInvites x = new ForkedInvites(100, 5);
        for (int i = 0; i < 32; i++) {
            x.tick(2000);
        }
        x.tick(1535);
        x.invite(3, 0, 0, 0);
        Checks.due("14: tick 65535", x.now(), 65535);
        Checks.due("20: tick 65535", x.message(0), 2147482624L + 483);
        x.tick(1);
        Checks.due("20: as it was sent", x.message(0), 2147482624L + 483);
        x.invite(0, 0, 0, 0);
        Checks.due("20: tick 65536", x.message(0), 2147483648L + 7 * 1024 + 483);
    }
}
