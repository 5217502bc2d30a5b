/**
 * Every call that the document lets answer "changing nothing", and every look: the answer is the one that is due, and
 * afterwards the object goes on just as a twin that did not get the call.
 */
public final class RefusedTest {
    private static final int NONE = ForkedInvites.NONE;
    private static final int LEAST = Integer.MIN_VALUE;
    private static final int MOST = Integer.MAX_VALUE;
    private static final int[] OUTSIDE = {LEAST, -1, 4, MOST};

    public static void main(String[] args) {
        busyIsAsSaid();
        lateIsAsSaid();
        oldIsAsSaid();
        password();
        challenge();
        loginOfNobody();
        loginWithoutANonce();
        loginWithACountThatIsNotMore();
        loginWithAWrongAnswer();
        loginWithAnOldNonce();
        registerWithWrongInput();
        registerWithoutAdmission();
        registerWithAnOldMark();
        registerWithoutRoom();
        inviteOfNoCall();
        inviteOfACallThatSaysNothing();
        replyOfNoBranch();
        replyWithNoCode();
        replyThatComesTooLate();
        cancelled();
        cancelOfNoCall();
        cancelOfACallThatIsNotProceeding();
        ack();
        tick();
        looks();
        Checks.end();
    }

    private static long number(boolean answer) {
        return answer ? 1 : 0;
    }

    private static int digest(int u, int c) {
        return Checks.digest(Twins.SECRET, Twins.nonce(u), c);
    }

    /** Were a scene not in the states that it tells of, what is asked in it would show less than it seems to. */
    private static void busyIsAsSaid() {
        ForkedInvites x = Twins.busy();
        int[] branches = {1 + 16 * 6, 2 + 16 * 2, 3 + 16 * 4, 3};
        for (int k = 0; k < 4; k++) {
            Checks.due("busy: branch " + k, x.branch(0, k), branches[k]);
        }
        Checks.due("busy: proceeding", x.server(0), 1 + 8 * 180);
        Checks.due("busy: answered", x.server(1), 4 + 8 * 100);
        Checks.due("busy: completed", x.server(2), 2 + 8 * 483);
        Checks.due("busy: not in use", x.server(3), 0);
        Checks.due("busy: user 1 has four bindings", x.bindings(1), 4);
        Checks.due("busy: user 2 has one", x.bindings(2), 1);
        Checks.due("busy: user 1 is admitted", x.register(1, 9, 5, 0, 0), 200);
        for (int u = 1; u < 4; u++) {
            int next = Twins.USED[u] + 1;
            Checks.due("busy: user " + u + " has a good nonce", x.login(u, next, digest(u, next)), true);
        }
    }

    private static void lateIsAsSaid() {
        ForkedInvites x = Twins.late();
        int[] branches = {2 + 8 + 16 * 6, 2 + 8 + 16 * 2, 1 + 8 + 16 * 4, 4};
        for (int k = 0; k < 4; k++) {
            Checks.due("late: branch " + k, x.branch(0, k), branches[k]);
        }
        Checks.due("late: answered", x.server(0), 4 + 8 * 180);
        Checks.due("late: confirmed", x.server(1), 3 + 8 * 603);
        Checks.due("late: ended", x.server(2), 5 + 8 * 486);
        Checks.due("late: its branch is not", x.branch(2, 0), 3 + 16 * 15);
        Checks.due("late: E is on", x.cancelled(0, 0), true);
        Checks.due("late: E is off", x.cancelled(0, 1), false);
    }

    private static void oldIsAsSaid() {
        ForkedInvites x = Twins.old();
        Checks.due("old: none lives", x.live(), 0);
        Checks.due("old: none is bound", x.bindings(1) + x.bindings(2), 0);
        Checks.due("old: user 1 is admitted", x.register(1, 9, 5, 0, 0), 200);
    }

    private static void password() {
        for (int u : OUTSIDE) {
            Twins.refused("2: password(" + u + ", 9)", Twins::busy, 0, x -> number(x.password(u, 9)));
        }
    }

    private static void challenge() {
        for (int u : OUTSIDE) {
            Twins.refused("3: challenge(" + u + ")", Twins::busy, 0, x -> x.challenge(u));
        }
    }

    private static void loginOfNobody() {
        for (int u : OUTSIDE) {
            Twins.refused("4: login(" + u + ", 20, ..)", Twins::busy, 0, x -> number(x.login(u, 20, digest(u & 3, 20))));
        }
    }

    private static void loginWithoutANonce() {
        Twins.refused("4: login(0, 1, ..) without a nonce", Twins::busy, 0, x -> number(x.login(0, 1, Checks.digest(0, 0, 1))));
    }

    private static void loginWithACountThatIsNotMore() {
        int[][] counts = {{1, Twins.USED[1]}, {1, Twins.USED[1] - 1}, {1, 1}, {1, 0}, {2, 1}, {2, 0}, {3, 0}, {3, -1}, {3, LEAST}};
        for (int[] c : counts) {
            Twins.refused("4: login(" + c[0] + ", " + c[1] + ", ..)", Twins::busy, 0, x -> number(x.login(c[0], c[1], digest(c[0], c[1]))));
        }
    }

    private static void loginWithAWrongAnswer() {
        int right = digest(1, 10);
        int[] wrong = {right - 1, right + 1, ~right, 0, digest(1, 11), digest(2, 10), Checks.digest(0, Twins.nonce(1), 10)};
        for (int answer : wrong) {
            Twins.refused("4: login(1, 10, " + answer + ")", Twins::busy, 0, x -> number(x.login(1, 10, answer)));
        }
        Twins.refused("4: login(3, 1, ..) of another secret", Twins::busy, 0, x -> number(x.login(3, 1, Checks.digest(0, Twins.nonce(3), 1))));
    }

    private static void loginWithAnOldNonce() {
        for (int u = 1; u < 4; u++) {
            int user = u;
            Twins.refused("4: login(" + u + ", 20, ..), too old", Twins::old, 0, x -> number(x.login(user, 20, digest(user, 20))));
        }
    }

    private static void registerWithWrongInput() {
        int[][] wrong = {
            {-1, 0, 0, 0}, {4, 0, 0, 0}, {LEAST, 0, 0, 0}, {MOST, 0, 0, 0},
            {1, -2, 0, 0}, {1, 16, 0, 9}, {1, LEAST, 0, 0}, {1, MOST, 0, 9},
            {1, 0, -1, 9}, {1, 0, 11, 9}, {1, 0, LEAST, 9}, {1, 0, MOST, 9},
            {1, 0, 0, -1}, {1, 0, 0, 5001}, {1, 0, 0, LEAST}, {1, 0, 0, MOST},
            {1, -1, 0, 1}, {1, -1, 0, 5000}, {1, -1, 0, -1}, {1, -1, -1, 0}, {1, -1, 11, 0}, {3, 16, 0, 9}
        };
        for (int[] w : wrong) {
            String what = "5: register(" + w[0] + ", " + w[1] + ", " + w[2] + ", " + w[3] + ", 512)";
            Twins.refused(what, Twins::busy, 400, x -> x.register(w[0], w[1], w[2], w[3], 512));
        }
    }

    private static void registerWithoutAdmission() {
        Twins.refused("5: to add, of user 0", Twins::busy, 401, x -> x.register(0, 0, 0, 9, 512));
        Twins.refused("5: to change", Twins::busy, 401, x -> x.register(2, 15, 0, 9, 512));
        Twins.refused("5: to remove", Twins::busy, 401, x -> x.register(2, 15, 0, 0, 512));
        Twins.refused("5: to remove all", Twins::busy, 401, x -> x.register(2, -1, 0, 0, 512));
        Twins.refused("5: with an old mark", Twins::busy, 401, x -> x.register(2, 15, 0, 9, 256));
    }

    /** What is answered 500 or 503 uses up the admission; so the twin uses up its own, by removing what is not there. */
    private static void onlyTheAdmission(String what, int want, Twins.Ask ask) {
        Twins.Ask other = x -> x.register(1, 9, 0, 0, 0);
        Checks.due(what, ask.of(Twins.busy()), want);
        Checks.due("5: removing what is not there", other.of(Twins.busy()), 200);
        Twins.alike(what + " changes the admission alone", () -> Twins.after(Twins::busy, ask), () -> Twins.after(Twins::busy, other));
    }

    private static void registerWithAnOldMark() {
        onlyTheAdmission("5: to change", 500, x -> x.register(1, 0, 9, 4000, 256));
        onlyTheAdmission("5: to change the last", 500, x -> x.register(1, 6, 9, 4000, 256));
        onlyTheAdmission("5: to remove", 500, x -> x.register(1, 0, 0, 0, 256));
        onlyTheAdmission("5: to remove all", 500, x -> x.register(1, -1, 0, 0, 256));
    }

    private static void registerWithoutRoom() {
        onlyTheAdmission("5: a fifth", 503, x -> x.register(1, 9, 10, 5000, 512));
        onlyTheAdmission("5: a fifth, with the mark of the others", 503, x -> x.register(1, 15, 0, 1, 256));
    }

    private static void inviteOfNoCall() {
        for (int call : OUTSIDE) {
            Twins.refused("8: invite(" + call + ", 2, 70, 0)", Twins::busy, NONE, x -> x.invite(call, 2, 70, 0));
            Twins.refused("8: invite(" + call + ", 2, 0, 0)", Twins::busy, NONE, x -> x.invite(call, 2, 0, 0));
        }
    }

    private static void inviteOfACallThatSaysNothing() {
        Twins.refused("8: answered", Twins::busy, 0, x -> x.invite(1, 2, 70, 0));
        Twins.refused("8: answered, with open branches", Twins::late, 0, x -> x.invite(0, 2, 70, 0));
        Twins.refused("8: confirmed", Twins::late, 0, x -> x.invite(1, 2, 70, 0));
        Twins.refused("8: ended, but not its branch", Twins::late, 0, x -> x.invite(2, 2, 0, 0));
    }

    private static void replyOfNoBranch() {
        int[][] none = {
            {-1, 0}, {4, 0}, {LEAST, 0}, {MOST, 0}, {3, 0}, {2, 0}, {2, -1},
            {0, -1}, {0, 4}, {0, LEAST}, {0, MOST}, {1, 1}, {1, -1}, {1, 3}
        };
        for (int[] n : none) {
            for (int code : new int[] {100, 180, 200, 486, 600}) {
                String what = "9: reply(" + n[0] + ", " + n[1] + ", " + code + ")";
                Twins.refused(what, Twins::busy, NONE, x -> x.reply(n[0], n[1], code));
            }
        }
    }

    private static void replyWithNoCode() {
        for (int branch = 0; branch < 4; branch++) {
            int at = branch;
            for (int code : new int[] {99, 700, 0, -1, LEAST, MOST}) {
                Twins.refused("9: reply(0, " + at + ", " + code + ")", Twins::busy, NONE, x -> x.reply(0, at, code));
            }
        }
    }

    private static void replyThatComesTooLate() {
        Twins.refused("9: 100 at a completed one", Twins::busy, 0, x -> x.reply(0, 2, 100));
        Twins.refused("9: 199 at a completed one", Twins::busy, 0, x -> x.reply(0, 2, 199));
        for (int code : new int[] {100, 101, 199, 300, 599, 600, 699}) {
            Twins.refused("9: " + code + " at an ended one", Twins::busy, 0, x -> x.reply(1, 0, code));
            Twins.refused("9: " + code + " at an ended one, others open", Twins::late, 0, x -> x.reply(0, 3, code));
        }
    }

    private static void cancelled() {
        int[][] off = {{0, 0}, {0, 1}, {0, 2}, {1, 0}, {2, 0}, {3, 0}, {-1, 0}, {4, 0}, {LEAST, 0}, {MOST, 0}};
        for (int[] o : off) {
            Twins.refused("10: cancelled(" + o[0] + ", " + o[1] + "), none sent", Twins::busy, 0, x -> number(x.cancelled(o[0], o[1])));
        }
        int[][] none = {
            {0, 1}, {0, 2}, {0, 3}, {1, 0}, {1, 1}, {2, 0}, {3, 0}, {-1, 0}, {4, 0},
            {0, -1}, {0, 4}, {0, LEAST}, {0, MOST}
        };
        for (int[] n : none) {
            Twins.refused("10: cancelled(" + n[0] + ", " + n[1] + ")", Twins::late, 0, x -> number(x.cancelled(n[0], n[1])));
        }
    }

    private static void cancelOfNoCall() {
        for (int call : new int[] {LEAST, -1, 3, 4, MOST}) {
            Twins.refused("11: cancel(" + call + ")", Twins::busy, NONE, x -> x.cancel(call));
        }
    }

    private static void cancelOfACallThatIsNotProceeding() {
        Twins.refused("11: completed", Twins::busy, 0, x -> x.cancel(2));
        Twins.refused("11: answered", Twins::busy, 0, x -> x.cancel(1));
        Twins.refused("11: answered, with open branches", Twins::late, 0, x -> x.cancel(0));
        Twins.refused("11: confirmed", Twins::late, 0, x -> x.cancel(1));
        Twins.refused("11: ended, but not its branch", Twins::late, 0, x -> x.cancel(2));
    }

    private static void ack() {
        for (int call : new int[] {LEAST, -1, 3, 4, MOST}) {
            Twins.refused("12: ack(" + call + ")", Twins::busy, 0, x -> number(x.ack(call)));
        }
        Twins.refused("12: proceeding", Twins::busy, 0, x -> number(x.ack(0)));
        Twins.refused("12: answered", Twins::busy, 0, x -> number(x.ack(1)));
        Twins.refused("12: confirmed", Twins::late, 0, x -> number(x.ack(1)));
        Twins.refused("12: ended, but not its branch", Twins::late, 0, x -> number(x.ack(2)));
    }

    private static void tick() {
        for (int n : new int[] {LEAST, -2, -1, 2001, 2002, MOST}) {
            Twins.refused("13: tick(" + n + ")", Twins::busy, NONE, x -> x.tick(n));
        }
        Twins.refused("13: tick(0)", Twins::busy, 0, x -> x.tick(0));
    }

    /** Asks for everything that can be looked at, with indexes inside and outside. */
    private static long lookAtAll(ForkedInvites x) {
        long seen = x.now() + x.live() + x.sent();
        int[] indexes = {LEAST, -1, 0, 1, 3, 4, 64, MOST};
        for (int i : indexes) {
            seen += x.bindings(i) + x.server(i) + x.message(i);
            for (int k : new int[] {-1, 0, 1, 4}) {
                seen += x.binding(i, k) + x.branch(i, k) + x.result(i, k);
            }
        }
        // Only that it was asked matters; what the looks answer is asked for elsewhere.
        return seen * 0;
    }

    private static void looks() {
        Twins.refused("6, 7, 14 to 20: looking", Twins::busy, 0, RefusedTest::lookAtAll);
        Twins.refused("6, 7, 14 to 20: looking, late", Twins::late, 0, RefusedTest::lookAtAll);
        Twins.refused("6, 7, 14 to 20: looking, after all ended", Twins::old, 0, RefusedTest::lookAtAll);
    }
}
