import java.util.Arrays;

/** The sentences under 'Terms' on the proxy, its timers, its codes and its log: each that names a boundary, by itself. */
public final class ProxyTermsTest {
    private static final int NONE = ForkedInvites.NONE;
    private static final int INVITE = ForkedInvites.INVITE;
    private static final int CANCEL = ForkedInvites.CANCEL;
    private static final int ACK = ForkedInvites.ACK;
    private static final int TO_CALLER = Checks.TO_CALLER;
    private static final int[] T1S = {1, 2, 7, 100};
    private static final int[] OTHER_CONTACTS = {3, 4, 5, 6};

    public static void main(String[] args) {
        callsZeroToThree();
        noneToFourBranches();
        serverStates();
        branchStates();
        inUseUntilTheServerEnded();
        inUseUntilTheLastBranchEnded();
        atMostOneResult();
        kindsOfCodes();
        for (int t1 : T1S) {
            aSendsInvites(t1);
            bEndsWhatIsCalling(t1);
            cCancels(t1);
            cSetAgainIsDueAtTheNewTimeAlone(t1);
            dEndsWhatIsCompleted(t1);
            eSendsCancels(t1);
            fEndsWhatWasCancelled(t1);
            gSendsTheAnswerAgain(t1);
            hEndsWhatIsCompleted(t1);
            iEndsWhatIsConfirmed(t1);
            lEndsWhatIsAnswered(t1);
        }
        aAndBAreOffWhenProceeding();
        allAreOffWhenCompleted();
        allAreOffWhenEnded();
        gAndHAreOffWhenConfirmed();
        aCancelIsSentOnce();
        aCancelWaitsForAProvisionalCode();
        hundredIsNotTold();
        provisionalIsToldWhileTheServerProceeds();
        successInEachState();
        lateCodesWithTheServerInEachState();
        successCancelsTheOthersOnce();
        failureInEachState();
        sixHundredCancelsTheOthers();
        answersWithTheLastResult();
        Checks.end();
    }

    /** "Calls 0 .. 3." */
    private static void callsZeroToThree() {
        ForkedInvites x = Checks.placed(1, 3);
        for (int call = -1; call <= 4; call++) {
            boolean there = call >= 0 && call <= 3;
            Checks.due("invite(" + call + ", ..)", x.invite(call, 1, 1, 0), there ? 2 : NONE);
            Checks.due("server(" + call + ")", x.server(call), there ? 1 + 8 * 100 : 0);
            Checks.due("branch(" + call + ", 0)", x.branch(call, 0), there ? 1 + 16 * 3 : 0);
            Checks.due("reply(" + call + ", 0, 180)", x.reply(call, 0, 180), there ? 1 : NONE);
            Checks.due("cancel(" + call + ")", x.cancel(call), there ? 1 : NONE);
            Checks.due("cancelled(" + call + ", 0)", x.cancelled(call, 0), there);
            Checks.due("reply(" + call + ", 0, 487)", x.reply(call, 0, 487), there ? 2 : NONE);
            Checks.due("result(" + call + ", 0)", x.result(call, 0), there ? 487 : 0);
            Checks.due("ack(" + call + ")", x.ack(call), there);
        }
        Checks.due("four at once", x.live(), 8);
    }

    /** "0 to 4 BRANCHES (0, 1, ..), each to one contact". */
    private static void noneToFourBranches() {
        int[] contacts = {9, 0, 15, 4};
        for (int count = 0; count <= 4; count++) {
            ForkedInvites x = Checks.placed(1, Arrays.copyOf(contacts, count));
            x.invite(0, 1, 1, 0);
            for (int k = -1; k <= 4; k++) {
                boolean there = k >= 0 && k < count;
                Checks.due("branch " + k + " of " + count, x.branch(0, k), there ? 1 + 16 * contacts[k] : 0);
                Checks.due("reply to " + k + " of " + count, x.reply(0, k, 180), there ? 1 : NONE);
            }
            Checks.due("live with " + count, x.live(), 1 + count);
        }
    }

    /** "A server is PROCEEDING (1), COMPLETED (2), CONFIRMED (3), ANSWERED (4) or ENDED (5)." */
    private static void serverStates() {
        ForkedInvites x = Checks.calling(1, 3);
        Checks.due("proceeding", x.server(0) % 8, 1);
        x.reply(0, 0, 486);
        Checks.due("completed", x.server(0) % 8, 2);
        x.ack(0);
        Checks.due("confirmed", x.server(0) % 8, 3);
        x.tick(8);
        Checks.due("ended", x.server(0) % 8, 5);
        x = Checks.calling(1, 3);
        x.reply(0, 0, 200);
        Checks.due("answered", x.server(0) % 8, 4);
    }

    /** "A branch is CALLING (1), PROCEEDING (2), COMPLETED (3) or ENDED (4)." */
    private static void branchStates() {
        ForkedInvites x = Checks.calling(1, 3, 4);
        Checks.due("calling", x.branch(0, 0) % 8, 1);
        x.reply(0, 0, 100);
        Checks.due("proceeding", x.branch(0, 0) % 8, 2);
        x.reply(0, 0, 486);
        Checks.due("completed", x.branch(0, 0) % 8, 3);
        x.reply(0, 1, 200);
        Checks.due("ended", x.branch(0, 1) % 8, 4);
    }

    /** "A call is in use until its server and all its branches are ended": here the server is the last. */
    private static void inUseUntilTheServerEnded() {
        ForkedInvites x = Checks.calling(1, 3);
        x.tick(64);
        Checks.due("the branch ended", x.branch(0, 0), 4 + 16 * 3);
        x.tick(63);
        Checks.due("the server did not", x.server(0), 2 + 8 * 408);
        Checks.due("it lives alone", x.live(), 1);
        Checks.due("still in use", x.invite(0, 1, 1, 0), 1);
        Checks.due("still in use", x.cancel(0), 0);
        Checks.due("still in use", x.result(0, 0), 408);
        x.tick(1);
        Checks.due("not in use", x.server(0), 0);
        Checks.due("not in use", x.branch(0, 0), 0);
        Checks.due("not in use", x.result(0, 0), 0);
        Checks.due("not in use", x.cancel(0), NONE);
        Checks.due("not in use", x.reply(0, 0, 200), NONE);
        Checks.due("none lives", x.live(), 0);
        Checks.due("free for another", x.invite(0, 1, 1, 0), 2);
    }

    /** The same, where a branch is the last. */
    private static void inUseUntilTheLastBranchEnded() {
        ForkedInvites x = Checks.calling(1, 3, 4);
        x.reply(0, 0, 486);
        x.tick(5);
        x.reply(0, 1, 486);
        x.ack(0);
        x.tick(58);
        Checks.due("the server ended", x.server(0), 5 + 8 * 486);
        Checks.due("both branches did not", x.live(), 2);
        x.tick(1);
        Checks.due("the first ended", x.live(), 1);
        x.tick(4);
        Checks.due("still in use", x.server(0), 5 + 8 * 486);
        Checks.due("still in use", x.branch(0, 0), 4 + 16 * 3);
        Checks.due("still in use", x.invite(0, 1, 1, 0), 0);
        x.tick(1);
        Checks.due("not in use", x.server(0), 0);
        Checks.due("none lives", x.live(), 0);
        Checks.due("free for another", x.invite(0, 1, 1, 0), 3);
    }

    /** "A branch has at most one RESULT, a code 200 .. 699." */
    private static void atMostOneResult() {
        for (int code : new int[] {200, 299, 300, 399, 400, 599, 600, 699}) {
            ForkedInvites x = Checks.calling(1, 3, 4);
            Checks.due("none at first", x.result(0, 0), 0);
            x.reply(0, 0, 199);
            Checks.due("none by 199", x.result(0, 0), 0);
            x.reply(0, 0, code);
            Checks.due("the result", x.result(0, 0), code);
            for (int later : new int[] {100, 199, 200, 299, 300, 699}) {
                x.reply(0, 0, later);
                Checks.due("the result stays after " + later, x.result(0, 0), code);
            }
            Checks.due("the other has none", x.result(0, 1), 0);
        }
    }

    /** "CODES: 100 .. 199 provisional, 200 .. 299 success, 300 .. 699 failure." */
    private static void kindsOfCodes() {
        int[][] codesAndStates = {
            {99, 1}, {100, 2}, {101, 2}, {199, 2}, {200, 4}, {201, 4}, {299, 4}, {300, 3}, {301, 3}, {599, 3}, {600, 3}, {699, 3}, {700, 1}
        };
        for (int[] c : codesAndStates) {
            ForkedInvites x = Checks.calling(1, 3, 4);
            x.reply(0, 0, c[0]);
            Checks.due("the branch by " + c[0], x.branch(0, 0), c[1] + 16 * 3);
            Checks.due("the server by " + c[0], x.server(0) % 8, c[1] == 4 ? 4 : 1);
        }
    }

    /** Asks that messages are sent just in these ticks from now on, the same each time. */
    private static void sentAt(String what, ForkedInvites x, int branch, int message, int... ticks) {
        int began = x.now();
        for (int at : ticks) {
            Checks.due(what + ": before " + at, ticks(x, began + at - 1 - x.now()), 0);
            Checks.due(what + ": at " + at, x.tick(1), 1);
            Checks.latest(what, x, Checks.message(began + at, 0, branch, message));
        }
    }

    private static int[] times(int t1, int... factors) {
        int[] times = new int[factors.length];
        for (int i = 0; i < factors.length; i++) {
            times[i] = factors[i] * t1;
        }
        return times;
    }

    private static int ticks(ForkedInvites x, int n) {
        int sent = 0;
        for (int left = n; left > 0; left -= 2000) {
            sent += x.tick(Math.min(left, 2000));
        }
        return sent;
    }

    /** "timer A is set to T1"; "an INVITE is sent on it, and A is set to twice what it was set to before": without a bound. */
    private static void aSendsInvites(int t1) {
        ForkedInvites x = Checks.calling(t1, 3);
        sentAt("A, T1 " + t1, x, 0, INVITE, times(t1, 1, 3, 7, 15, 31, 63));
        Checks.due("no more until B, T1 " + t1, x.tick(t1 - 1), 0);
    }

    /** "B to 64 * T1"; "it is ended, with the result 408". */
    private static void bEndsWhatIsCalling(int t1) {
        ForkedInvites x = Checks.calling(t1, 3, 4);
        x.reply(0, 1, 100);
        ticks(x, 64 * t1 - 1);
        Checks.due("before B, T1 " + t1, x.branch(0, 0), 1 + 16 * 3);
        Checks.due("before B, T1 " + t1, x.result(0, 0), 0);
        Checks.due("B sends nothing on it, T1 " + t1, x.tick(1), 0);
        Checks.due("B, T1 " + t1, x.branch(0, 0), 4 + 16 * 3);
        Checks.due("B, T1 " + t1, x.result(0, 0), 408);
        Checks.due("the other has no B, T1 " + t1, x.branch(0, 1), 2 + 16 * 4);
    }

    /** "C to 200 * T1"; "it is cancelled". */
    private static void cCancels(int t1) {
        ForkedInvites x = Checks.calling(t1, 3);
        x.reply(0, 0, 100);
        ticks(x, 200 * t1 - 1);
        Checks.due("before C, T1 " + t1, x.branch(0, 0), 2 + 16 * 3);
        Checks.due("before C, T1 " + t1, x.sent(), 2);
        Checks.due("C, T1 " + t1, x.tick(1), 1);
        Checks.due("C, T1 " + t1, x.branch(0, 0), 2 + 8 + 16 * 3);
        Checks.latest("C", x, Checks.message(200 * t1, 0, 0, CANCEL));
    }

    /** "set again, it is due at the new time alone": C by a code that is not 100, also by the first. */
    private static void cSetAgainIsDueAtTheNewTimeAlone(int t1) {
        ForkedInvites x = Checks.calling(t1, 3);
        x.tick(t1 - 1);
        x.reply(0, 0, 101);
        ticks(x, 200 * t1 - 1);
        Checks.due("before the second time, T1 " + t1, x.reply(0, 0, 100), 0);
        Checks.due("before the second time, T1 " + t1, x.reply(0, 0, 199), 1);
        int sent = x.sent();
        ticks(x, 200 * t1 - 1);
        Checks.due("nothing at the old times, T1 " + t1, x.sent(), sent);
        Checks.due("C at the third time, T1 " + t1, x.tick(1), 1);
        Checks.due("C at the third time, T1 " + t1, x.branch(0, 0), 2 + 8 + 16 * 3);
    }

    /** "D is set to 64 * T1"; "D, when due: it is ended". */
    private static void dEndsWhatIsCompleted(int t1) {
        ForkedInvites x = Checks.calling(t1, 3, 4);
        x.reply(0, 1, 180);
        x.tick(t1);
        x.reply(0, 0, 486);
        ticks(x, 32 * t1);
        Checks.due("an ACK on the way, T1 " + t1, x.reply(0, 0, 486), 1);
        ticks(x, 32 * t1 - 1);
        Checks.due("before D, T1 " + t1, x.branch(0, 0), 3 + 16 * 3);
        Checks.due("D sends nothing, T1 " + t1, x.tick(1), 0);
        Checks.due("D, as it was first set, T1 " + t1, x.branch(0, 0), 4 + 16 * 3);
        Checks.due("the result stays, T1 " + t1, x.result(0, 0), 486);
    }

    /** "E is set to T1"; "E is set to twice what it was set to before, but at most 8 * T1". */
    private static void eSendsCancels(int t1) {
        ForkedInvites x = Checks.calling(t1, 3);
        x.reply(0, 0, 100);
        x.tick(5);
        x.cancel(0);
        sentAt("E, T1 " + t1, x, 0, CANCEL, times(t1, 1, 3, 7, 15, 23, 31, 39, 47, 55, 63));
        Checks.due("no more until F, T1 " + t1, x.tick(t1 - 1), 0);
        Checks.due("E is on, T1 " + t1, x.cancelled(0, 0), true);
    }

    /** "F to 64 * T1"; "F, when due: it is ended, with the result 408". */
    private static void fEndsWhatWasCancelled(int t1) {
        ForkedInvites x = Checks.calling(t1, 3, 4);
        x.reply(0, 0, 180);
        x.reply(0, 1, 180);
        x.tick(5);
        x.cancel(0);
        x.cancelled(0, 0);
        x.tick(t1);
        Checks.due("another CANCEL sets no F, T1 " + t1, x.cancel(0), 0);
        Checks.due("nor does a code, T1 " + t1, x.reply(0, 0, 100), 0);
        ticks(x, 63 * t1 - 1);
        Checks.due("before F, T1 " + t1, x.branch(0, 0), 2 + 8 + 16 * 3);
        Checks.due("before F, T1 " + t1, x.result(0, 0), 0);
        Checks.due("F of both answers once, T1 " + t1, x.tick(1), 1);
        Checks.due("F, T1 " + t1, x.branch(0, 0), 4 + 8 + 16 * 3);
        Checks.due("F, T1 " + t1, x.result(0, 0), 408);
        Checks.latest("F", x, Checks.message(5 + 64 * t1, 0, TO_CALLER, 408));
    }

    /** "its timer G is set to T1"; "G is set to twice what it was set to before, but at most 8 * T1". */
    private static void gSendsTheAnswerAgain(int t1) {
        ForkedInvites x = Checks.calling(t1, 3);
        x.tick(t1 - 1);
        x.reply(0, 0, 503);
        sentAt("G, T1 " + t1, x, TO_CALLER, 500, times(t1, 1, 3, 7, 15, 23, 31, 39, 47, 55, 63));
        Checks.due("no more until H, T1 " + t1, x.tick(t1 - 1), 0);
    }

    /** "H to 64 * T1"; "H, when due: it is ended". */
    private static void hEndsWhatIsCompleted(int t1) {
        ForkedInvites x = new ForkedInvites(t1, 5);
        x.tick(3);
        x.invite(0, 0, 0, 0);
        ticks(x, 64 * t1 - 1);
        Checks.due("before H, T1 " + t1, x.server(0), 2 + 8 * 483);
        Checks.due("H sends nothing, T1 " + t1, x.tick(1), 0);
        Checks.due("H, T1 " + t1, x.server(0), 0);
        Checks.due("G is off, T1 " + t1, x.tick(8 * t1), 0);
    }

    /** "its timer I is set to 8 * T1"; "I, when due: it is ended". */
    private static void iEndsWhatIsConfirmed(int t1) {
        ForkedInvites x = new ForkedInvites(t1, 5);
        x.invite(0, 0, 0, 0);
        x.tick(t1);
        Checks.due("confirmed, T1 " + t1, x.ack(0), true);
        Checks.due("before I, T1 " + t1, x.tick(8 * t1 - 1), 0);
        Checks.due("before I, T1 " + t1, x.server(0), 3 + 8 * 483);
        Checks.due("I sends nothing, T1 " + t1, x.tick(1), 0);
        Checks.due("I, T1 " + t1, x.server(0), 0);
    }

    /** "its timer L is set to 64 * T1"; "L, when due: it is ended": by the first success alone. */
    private static void lEndsWhatIsAnswered(int t1) {
        ForkedInvites x = Checks.calling(t1, 3);
        x.tick(t1 - 1);
        x.reply(0, 0, 200);
        ticks(x, 64 * t1 - 1);
        Checks.due("before L, T1 " + t1, x.server(0), 4 + 8 * 100);
        Checks.due("a success sets no L, T1 " + t1, x.reply(0, 0, 200), 1);
        Checks.due("L sends nothing, T1 " + t1, x.tick(1), 0);
        Checks.due("L, T1 " + t1, x.server(0), 0);
    }

    /** "When a branch is calling no more, its A and B are off". */
    private static void aAndBAreOffWhenProceeding() {
        ForkedInvites x = Checks.calling(1, 3);
        x.tick(62);
        x.reply(0, 0, 100);
        Checks.due("A would be due", x.tick(1), 0);
        Checks.due("B would be due", x.tick(1), 0);
        Checks.due("still proceeding", x.branch(0, 0), 2 + 16 * 3);
        Checks.due("C is on", x.tick(136), 1);
    }

    /** "when it is neither calling nor proceeding, C, E and F are off too": completed, with D on. */
    private static void allAreOffWhenCompleted() {
        ForkedInvites x = Checks.calling(1, 3, 4);
        x.reply(0, 1, 100);
        x.reply(0, 0, 486);
        Checks.due("A is off", x.tick(63), 0);
        Checks.due("B is off", x.tick(1), 0);
        Checks.due("B is off", x.result(0, 0), 486);
        x.tick(96);
        x.reply(0, 1, 486);
        x.ack(0);
        Checks.due("C is off", x.tick(40), 0);
        Checks.due("not marked by C", x.branch(0, 1), 3 + 16 * 4);
        x = Checks.calling(1, 3, 4);
        x.reply(0, 0, 100);
        x.reply(0, 1, 180);
        x.cancel(0);
        x.tick(2);
        x.reply(0, 0, 487);
        x.cancelled(0, 1);
        Checks.due("E is off", x.cancelled(0, 0), false);
        Checks.due("E is off", x.tick(61), 0);
        Checks.due("F of the other answers", x.tick(1), 1);
        Checks.due("F is off", x.branch(0, 0), 3 + 8 + 16 * 3);
        Checks.due("F is off", x.result(0, 0), 487);
    }

    /** The same, ended by a success while the call goes on with another branch. */
    private static void allAreOffWhenEnded() {
        ForkedInvites x = Checks.calling(1, 3, 4);
        x.reply(0, 0, 200);
        x.tick(60);
        x.reply(0, 1, 100);
        x.cancelled(0, 1);
        int sent = x.sent();
        x.tick(63);
        Checks.due("nothing is sent on it", x.sent(), sent);
        Checks.due("its result stays", x.result(0, 0), 200);
        x = Checks.calling(1, 3, 4);
        x.reply(0, 0, 100);
        x.reply(0, 1, 100);
        x.cancel(0);
        x.reply(0, 0, 200);
        Checks.due("E is off", x.cancelled(0, 0), false);
        Checks.due("E of the other is on", x.cancelled(0, 1), true);
        Checks.due("nothing is sent", x.tick(63), 0);
        Checks.due("F is off", x.result(0, 0), 200);
        x = Checks.calling(1, 3, 4);
        x.reply(0, 1, 180);
        x.tick(150);
        x.reply(0, 1, 180);
        Checks.due("C of the one that B ended is off", x.tick(60), 0);
        Checks.due("it is not marked", x.branch(0, 0), 4 + 16 * 3);
    }

    /** "When the server is completed no more, G and H are off." */
    private static void gAndHAreOffWhenConfirmed() {
        ForkedInvites x = new ForkedInvites(1, 5);
        x.invite(0, 0, 0, 0);
        x.tick(62);
        x.ack(0);
        Checks.due("G would be due", x.tick(1), 0);
        Checks.due("H would be due", x.tick(1), 0);
        Checks.due("still confirmed", x.server(0), 3 + 8 * 483);
        x.tick(6);
        Checks.due("I ends it", x.server(0), 0);
    }

    /** "if it is proceeding and no CANCEL was sent on it yet, a CANCEL is sent on it". */
    private static void aCancelIsSentOnce() {
        ForkedInvites x = Checks.calling(1, 3, 4);
        x.reply(0, 0, 100);
        Checks.due("the first", x.cancel(0), 1);
        Checks.due("another cancel", x.cancel(0), 0);
        Checks.due("100", x.reply(0, 0, 100), 0);
        Checks.due("180 is told", x.reply(0, 0, 180), 1);
        Checks.due("600 of the other: an ACK", x.reply(0, 1, 600), 1);
        x.cancelled(0, 0);
        Checks.due("after its answer", x.cancel(0), 0);
        Checks.due("it sets no E", x.cancelled(0, 0), false);
    }

    /** "after all that, with 100 too, it is cancelled if it is marked as wanted to end". */
    private static void aCancelWaitsForAProvisionalCode() {
        for (int code : new int[] {100, 101, 199}) {
            ForkedInvites x = Checks.calling(1, 3);
            Checks.due("calling", x.cancel(0), 0);
            Checks.due("marked", x.branch(0, 0), 1 + 8 + 16 * 3);
            Checks.due("no E", x.cancelled(0, 0), false);
            Checks.due("by " + code, x.reply(0, 0, code), code == 100 ? 1 : 2);
            Checks.latest("by " + code, x, Checks.message(0, 0, 0, CANCEL));
            Checks.due("E is on", x.cancelled(0, 0), true);
            Checks.due("until F", x.tick(63), 0);
            Checks.due("F", x.tick(1), 1);
        }
        ForkedInvites x = Checks.calling(1, 3);
        x.reply(0, 0, 100);
        Checks.due("not marked, so not cancelled", x.reply(0, 0, 180), 1);
        Checks.due("not marked", x.branch(0, 0), 2 + 16 * 3);
    }

    /** "if the code is not 100: C is set to 200 * T1 .., and, if the server is proceeding, the code is sent to the caller". */
    private static void hundredIsNotTold() {
        ForkedInvites x = Checks.calling(1, 3);
        x.tick(1);
        Checks.due("100", x.reply(0, 0, 100), 0);
        Checks.due("C as before", x.tick(198), 0);
        Checks.due("C as before", x.tick(1), 1);
        x = Checks.calling(1, 3);
        x.tick(1);
        Checks.due("101", x.reply(0, 0, 101), 1);
        Checks.due("C anew", x.tick(199), 0);
        Checks.due("C anew", x.tick(1), 1);
    }

    private static void provisionalIsToldWhileTheServerProceeds() {
        ForkedInvites x = Checks.calling(1, 3, 4, 5);
        x.reply(0, 1, 100);
        Checks.due("proceeding", x.reply(0, 1, 199), 1);
        Checks.due("proceeding, the same again", x.reply(0, 1, 199), 1);
        x.reply(0, 0, 200);
        Checks.due("answered", x.reply(0, 1, 199), 0);
        Checks.due("answered: a CANCEL alone", x.reply(0, 2, 101), 1);
        Checks.due("the latest code", x.server(0), 4 + 8 * 199);
        x.tick(60);
        x.reply(0, 2, 200);
        Checks.due("the latest code is no success", x.server(0), 4 + 8 * 199);
    }

    /** "Success, in any state, also ended: .. the code is sent to the caller". */
    private static void successInEachState() {
        for (int code : new int[] {200, 299}) {
            for (int state = 1; state <= 4; state++) {
                ForkedInvites x = branchIn(state);
                int result = x.result(0, 0);
                Checks.due("in state " + state, x.reply(0, 0, code), 2);
                Checks.latest("in state " + state, x, Checks.message(x.now(), 0, TO_CALLER, code), Checks.message(x.now(), 0, 1, CANCEL));
                boolean open = state < 3;
                Checks.due("its state", x.branch(0, 0), (open ? 4 : state) + 16 * 3);
                Checks.due("its result", x.result(0, 0), open ? code : result);
                Checks.due("the server", x.server(0) % 8, 4);
                Checks.due("the other", x.branch(0, 1), 2 + 8 + 16 * 4);
            }
        }
    }

    /** A call whose branch 0 is in that state, and whose branch 1 rings. */
    private static ForkedInvites branchIn(int state) {
        ForkedInvites x = Checks.calling(1, 3, 4);
        x.reply(0, 1, 180);
        if (state == 2) {
            x.reply(0, 0, 100);
        } else if (state == 3) {
            x.reply(0, 0, 486);
        } else if (state == 4) {
            x.tick(64);
        }
        Checks.due("state " + state, x.branch(0, 0), state + 16 * 3);
        return x;
    }

    /** The same with a server that is not proceeding: the code is sent to the caller, and the server stays as it is. */
    private static void lateCodesWithTheServerInEachState() {
        for (int state = 2; state <= 5; state++) {
            ForkedInvites x = serverIn(state);
            int server = x.server(0);
            int branch = x.branch(0, 0);
            Checks.due("200, server in state " + state, x.reply(0, 0, 200), 1);
            Checks.latest("200, server in state " + state, x, Checks.message(x.now(), 0, TO_CALLER, 200));
            Checks.due("486, server in state " + state, x.reply(0, 0, 486), 1);
            Checks.latest("486, server in state " + state, x, Checks.message(x.now(), 0, 0, ACK));
            Checks.due("180, server in state " + state, x.reply(0, 0, 180), 0);
            Checks.due("the server as it was", x.server(0), server);
            Checks.due("the branch as it was", x.branch(0, 0), branch);
            Checks.due("its result as it was", x.result(0, 0), 404);
        }
    }

    /** A call whose server is in that state, and whose branch 0 is completed. */
    private static ForkedInvites serverIn(int state) {
        ForkedInvites x = Checks.calling(1, 3, 4);
        x.reply(0, 0, 404);
        x.reply(0, 1, state == 4 ? 200 : 404);
        if (state == 3 || state == 5) {
            x.ack(0);
        }
        if (state == 5) {
            x.tick(8);
        }
        Checks.due("server in state " + state, x.server(0) % 8, state);
        return x;
    }

    /** "if the server is proceeding, it is answered, .. and the other branches that are calling or proceeding are cancelled, in their order". */
    private static void successCancelsTheOthersOnce() {
        ForkedInvites x = Checks.calling(1, OTHER_CONTACTS);
        x.reply(0, 3, 100);
        x.reply(0, 0, 100);
        x.reply(0, 1, 486);
        Checks.due("the code and two CANCELs", x.reply(0, 2, 200), 3);
        Checks.latest("in their order", x, Checks.message(0, 0, TO_CALLER, 200), Checks.message(0, 0, 0, CANCEL), Checks.message(0, 0, 3, CANCEL));
        Checks.due("a completed one is not marked", x.branch(0, 1), 3 + 16 * 4);
        Checks.due("itself is not marked", x.branch(0, 2), 4 + 16 * 5);
        Checks.due("a second success", x.reply(0, 3, 200), 1);
        Checks.due("a third", x.reply(0, 2, 200), 1);
    }

    /** "Failure, calling or proceeding: it is completed ..; failure, completed: an ACK is sent on it. In other cases nothing happens." */
    private static void failureInEachState() {
        for (int code : new int[] {300, 599}) {
            for (int state = 1; state <= 4; state++) {
                ForkedInvites x = branchIn(state);
                int result = x.result(0, 0);
                Checks.due("in state " + state, x.reply(0, 0, code), state == 4 ? 0 : 1);
                if (state < 4) {
                    Checks.latest("in state " + state, x, Checks.message(0, 0, 0, ACK));
                }
                Checks.due("its state", x.branch(0, 0), (state == 4 ? 4 : 3) + 16 * 3);
                Checks.due("its result", x.result(0, 0), state < 3 ? code : result);
                Checks.due("the other", x.branch(0, 1), 2 + 16 * 4);
            }
        }
    }

    /** "if the code is 600 or more, the other branches that are calling or proceeding are cancelled, in their order". */
    private static void sixHundredCancelsTheOthers() {
        for (int code : new int[] {599, 600, 601, 699}) {
            ForkedInvites x = Checks.calling(1, OTHER_CONTACTS);
            x.reply(0, 3, 100);
            x.reply(0, 1, 100);
            int marked = code < 600 ? 0 : 8;
            Checks.due(code + " cancels", x.reply(0, 2, code), code < 600 ? 1 : 3);
            Checks.due(code + ": calling", x.branch(0, 0), 1 + marked + 16 * 3);
            Checks.due(code + ": proceeding", x.branch(0, 1), 2 + marked + 16 * 4);
            Checks.due(code + ": itself", x.branch(0, 2), 3 + 16 * 5);
            Checks.due(code + ": the last", x.branch(0, 3), 2 + marked + 16 * 6);
            if (code >= 600) {
                Checks.latest(code + ": in their order", x, Checks.message(0, 0, 2, ACK), Checks.message(0, 0, 1, CANCEL), Checks.message(0, 0, 3, CANCEL));
            }
        }
        for (int state = 3; state <= 4; state++) {
            ForkedInvites x = branchIn(state);
            x.reply(0, 0, 600);
            Checks.due("600 in state " + state + " cancels none", x.branch(0, 1), 2 + 16 * 4);
        }
    }

    /** "and the server is proceeding and every branch has a result, the server answers the BEST result after all that". */
    private static void answersWithTheLastResult() {
        for (int count = 1; count <= 4; count++) {
            ForkedInvites x = Checks.calling(1, Arrays.copyOf(OTHER_CONTACTS, count));
            for (int k = 0; k < count - 1; k++) {
                Checks.due("not yet", x.reply(0, k, 486), 1);
                Checks.due("not yet", x.server(0), 1 + 8 * 100);
            }
            Checks.due("the last of " + count, x.reply(0, count - 1, 600), 2);
            Checks.latest("the last of " + count, x, Checks.message(0, 0, count - 1, ACK), Checks.message(0, 0, TO_CALLER, 600));
            Checks.due("once", x.reply(0, count - 1, 600), 1);
        }
        ForkedInvites x = Checks.calling(1, 3, 4);
        x.reply(0, 0, 200);
        x.reply(0, 1, 100);
        Checks.due("an answered server answers no failure", x.reply(0, 1, 487), 1);
        x = Checks.calling(1, 3, 4);
        x.reply(0, 0, 200);
        Checks.due("nor by B: INVITEs alone", x.tick(64), 6);
        Checks.due("all ended", x.live(), 0);
        x = Checks.calling(1, 3, 4);
        x.reply(0, 1, 100);
        x.tick(1);
        x.reply(0, 0, 200);
        x.cancelled(0, 1);
        Checks.due("nor by F", x.tick(64), 0);
        Checks.due("all ended", x.live(), 0);
    }
}
