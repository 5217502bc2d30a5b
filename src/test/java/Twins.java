/**
 * Shows that a call changed nothing, also where no look reaches (timers, admissions, counts, marks, the state
 * of the nonces): of two objects with the same past, one gets the call, and then both must answer alike.
 */
final class Twins {
    static final int T1 = 2;
    static final int SECRET = 77;
    /** The counts that were used with the nonces of the users 0 .. 3; user 0 has no nonce. */
    static final int[] USED = {0, 9, 1, 0};
    private static final int[] WEIGHTS = {2, 7, 5, 10};
    private static final int PROBE_MOST = 700;

    interface Scene {
        ForkedInvites make();
    }

    interface Ask {
        long of(ForkedInvites x);
    }

    private final long[] answers = new long[PROBE_MOST];
    private int count;

    private Twins() {
    }

    static void refused(String what, Scene scene, long want, Ask ask) {
        Checks.due(what, ask.of(scene.make()), want);
        alike(what + " changes nothing", () -> after(scene, ask), scene);
    }

    static ForkedInvites after(Scene scene, Ask ask) {
        ForkedInvites x = scene.make();
        ask.of(x);
        return x;
    }

    static void alike(String what, Scene one, Scene other) {
        // What a probe itself changes hides what was changed before; so there are three, each of which begins otherwise.
        Twins first = new Twins();
        Twins second = new Twins();
        first.look(one.make());
        second.look(other.make());
        first.probeAdmissions(one.make());
        second.probeAdmissions(other.make());
        first.probeNoncesAndTimers(one.make());
        second.probeNoncesAndTimers(other.make());
        Checks.due(what + ": how many answers", first.count, second.count);
        for (int i = 0; i < first.count; i++) {
            Checks.due(what + ": answer " + i + " of the probes", first.answers[i], second.answers[i]);
        }
    }

    /** Users in every state of admission; a call with open branches, an answered, a refused and an unused one. */
    static ForkedInvites busy() {
        ForkedInvites x = users();
        x.invite(0, 1, 70, 0);
        x.reply(0, 1, 180);
        x.reply(0, 2, 486);
        x.reply(0, 3, 404);
        x.invite(1, 2, 70, 0);
        x.reply(1, 0, 200);
        x.tick(1);
        x.invite(2, 0, 0, 0);
        x.tick(2);
        return x;
    }

    /** Branches that were cancelled in an answered call, a confirmed server and one that ended before its branch. */
    static ForkedInvites late() {
        ForkedInvites x = users();
        x.invite(2, 2, 70, 0);
        x.reply(2, 0, 486);
        x.ack(2);
        x.tick(8 * T1);
        x.invite(0, 1, 70, 0);
        x.reply(0, 0, 180);
        x.reply(0, 1, 100);
        x.reply(0, 3, 200);
        x.cancelled(0, 1);
        x.invite(1, 2, 70, 0);
        x.reply(1, 0, 603);
        x.ack(1);
        x.tick(1);
        return x;
    }

    /** All nonces too old, all bindings ended, all calls unused again. */
    static ForkedInvites old() {
        ForkedInvites x = busy();
        x.tick(100 * T1);
        x.tick(400 * T1);
        return x;
    }

    private static ForkedInvites users() {
        ForkedInvites x = new ForkedInvites(T1, 5);
        for (int u = 1; u < 4; u++) {
            x.password(u, SECRET);
            x.challenge(u);
        }
        for (int i = 0; i < 4; i++) {
            login(x, 1, 5 + i);
            x.register(1, 2 * i, WEIGHTS[i], 700 + i, 256);
        }
        login(x, 1, USED[1]);
        login(x, 2, USED[2]);
        x.register(2, 15, 10, 900, 256);
        return x;
    }

    private static boolean login(ForkedInvites x, int u, int c) {
        return x.login(u, c, Checks.digest(u == 0 ? 0 : SECRET, nonce(u), c));
    }

    /** What the seed 5 gives to the users 1, 2 and 3, in this order. */
    static int nonce(int u) {
        int made = 5;
        for (int i = 0; i < u; i++) {
            made = made * 69069 + 1;
        }
        return made;
    }

    private void note(long answer) {
        answers[count] = answer;
        count++;
    }

    private void note(boolean answer) {
        note(answer ? 1 : 0);
    }

    /** Who is admitted now, with which secret and nonce one can be, and which marks the bindings have. */
    private void probeAdmissions(ForkedInvites x) {
        for (int u = 0; u < 4; u++) {
            note(x.register(u, 9, 1, 0, 0));
            note(x.register(u, 9, 1, 0, 0));
        }
        note(login(x, 0, 1));
        for (int u = 1; u < 4; u++) {
            for (int i = 0; i < 8; i++) {
                note(login(x, u, USED[u] + 1 + i));
                // Of each binding of user 1, the mark that is still too old, then the next one.
                note(x.register(u, i / 2 * 2, i, 50 + i, 256 + i % 2));
            }
        }
        look(x);
    }

    /** Which counts can be used, what the next nonce is, and what every timer does and when. */
    private void probeNoncesAndTimers(ForkedInvites x) {
        for (int u = 0; u < 4; u++) {
            note(login(x, u, USED[u] + 1));
            note(login(x, u, USED[u] + 1));
        }
        note(x.challenge(0));
        for (int i = 0; i < 120; i++) {
            note(x.tick(i < 40 ? 1 : i < 80 ? 8 : 2));
            note(x.live());
        }
        look(x);
    }

    private void look(ForkedInvites x) {
        note(x.now());
        note(x.live());
        note(x.sent());
        for (int k = 0; k < 40; k++) {
            note(x.message(k));
        }
        for (int i = 0; i < 4; i++) {
            note(x.bindings(i));
            note(x.server(i));
            for (int k = 0; k < 4; k++) {
                note(x.binding(i, k));
                note(x.branch(i, k));
                note(x.result(i, k));
            }
        }
    }
}
