/** Promises 14, 18, 19 and 20: now, live, sent, message. */
public final class LogTest {
    private static final int NONE = ForkedInvites.NONE;

    public static void main(String[] args) {
        fewMessages();
        manyMessages();
        lateTicks();
        live();
        Checks.end();
    }

    private static void fewMessages() {
        ForkedInvites x = Checks.calling(1, 3);
        Checks.due("19: two", x.sent(), 2);
        Checks.due("20: the latest", x.message(0), Checks.message(0, 0, 0, ForkedInvites.INVITE));
        Checks.due("20: the first", x.message(1), Checks.message(0, 0, Checks.TO_CALLER, 100));
        Checks.due("20: not so many", x.message(2), NONE);
        Checks.due("20: message(-1)", x.message(-1), NONE);
        Checks.due("20: message(64)", x.message(64), NONE);
        Checks.due("20: message(least)", x.message(Integer.MIN_VALUE), NONE);
        Checks.due("20: message(most)", x.message(Integer.MAX_VALUE), NONE);
        Checks.due("19: asking sends none", x.sent(), 2);
    }

    private static void manyMessages() {
        ForkedInvites x = Checks.calling(1, 3);
        // Each code goes to the caller, so that every message tells its own number.
        for (int i = 0; i < 140; i++) {
            x.reply(0, 0, 101 + i % 99);
            int sent = 3 + i;
            Checks.due("19: sent", x.sent(), sent);
            Checks.due("20: the 64th, or none", x.message(63), sent < 64 ? NONE : sixtyFourth(i));
        }
        for (int k = 0; k < 64; k++) {
            Checks.due("20: message(" + k + ")", x.message(k), Checks.message(0, 0, Checks.TO_CALLER, 101 + (139 - k) % 99));
        }
        Checks.due("20: the 65th is kept no more", x.message(64), NONE);
    }

    private static long sixtyFourth(int i) {
        int first = i - 63;
        if (first == -2) {
            return Checks.message(0, 0, Checks.TO_CALLER, 100);
        }
        if (first == -1) {
            return Checks.message(0, 0, 0, ForkedInvites.INVITE);
        }
        return Checks.message(0, 0, Checks.TO_CALLER, 101 + first % 99);
    }

    private static void lateTicks() {
        ForkedInvites x = new ForkedInvites(1, 5);
        for (int i = 0; i < 400; i++) {
            x.tick(2000);
        }
        Checks.due("14: late", x.now(), 800000);
        x.invite(3, 0, 0, 0);
        Checks.due("20: more than an int holds", x.message(0), ((800000L * 4 + 3) * 8 + 7) * 1024 + 483);
        Checks.register(x, 1, 3, 5, 5000, 0);
        Checks.due("7: late", x.binding(1, 0), 3 + 16 * 5000);
    }

    private static void live() {
        ForkedInvites x = Checks.calling(1, 3, 4);
        Checks.due("18: a server and two branches", x.live(), 3);
        x.invite(1, 1, 0, 0);
        Checks.due("18: one server more", x.live(), 4);
        x.reply(0, 0, 486);
        Checks.due("18: completed is not ended", x.live(), 4);
        x.reply(0, 1, 200);
        Checks.due("18: a branch ended", x.live(), 3);
        x.ack(1);
        Checks.due("18: confirmed is not ended", x.live(), 3);
        x.tick(8);
        Checks.due("18: I", x.live(), 2);
        x.tick(56);
        Checks.due("18: L and D", x.live(), 0);
    }
}
