/** What the tests share: counting wrong answers, and the common ways to bring an object into a state. */
final class Checks {
    static final int TO_CALLER = 7;

    private static int asked = 0;
    private static int wrong = 0;

    private Checks() {
    }

    static void due(String what, long got, long want) {
        asked++;
        if (got != want) {
            wrong++;
            System.out.println(what + " answered " + got + ", due is " + want);
        }
    }

    static void due(String what, boolean got, boolean want) {
        due(what, got ? 1L : 0L, want ? 1L : 0L);
    }

    static void end() {
        System.out.println(asked + " answers asked, " + wrong + " wrong");
        if (wrong != 0 || asked == 0) {
            System.exit(1);
        }
    }

    /** The document's DIGEST, by longs, so that a slip in the program is not made here too. */
    static int digest(int secret, int nonce, int count) {
        long x = (secret ^ nonce) & 0xFFFFFFFFL;
        x = ((x ^ (x / 32768)) * 2654435769L) & 0xFFFFFFFFL;
        x = (x + count * 2654435L) & 0xFFFFFFFFL;
        return (int) (x ^ (x / 8192));
    }

    /** Admits a user whose secret is still 0. */
    static void admit(ForkedInvites x, int u) {
        int nonce = x.challenge(u);
        due("login before a registration", x.login(u, 1, digest(0, nonce, 1)), true);
    }

    static int register(ForkedInvites x, int u, int contact, int weight, int ends, int mark) {
        admit(x, u);
        return x.register(u, contact, weight, ends, mark);
    }

    /** An object whose user 1 is at the given contacts, in this order, until tick 5000. */
    static ForkedInvites placed(int t1, int... contacts) {
        ForkedInvites x = new ForkedInvites(t1, 5);
        for (int contact : contacts) {
            due("register(1, " + contact + ", 5, 5000, 256)", register(x, 1, contact, 5, 5000, 256), 200);
        }
        return x;
    }

    /** The same, with call 0 going to user 1. */
    static ForkedInvites calling(int t1, int... contacts) {
        ForkedInvites x = placed(t1, contacts);
        due("invite(0, 1, 70, 0)", x.invite(0, 1, 70, 0), 1 + contacts.length);
        return x;
    }

    static long message(int tick, int call, int branch, int what) {
        return ((tick * 4L + call) * 8L + branch) * 1024L + what;
    }

    /** Asks for the latest messages, the last sent of them last. */
    static void latest(String what, ForkedInvites x, long... messages) {
        for (int i = 0; i < messages.length; i++) {
            int k = messages.length - 1 - i;
            due(what + ": message(" + k + ")", x.message(k), messages[i]);
        }
    }
}
