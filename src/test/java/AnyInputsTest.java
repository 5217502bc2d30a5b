import java.util.Random;

/** No call throws or fails to end, whatever is given in whatever state, and what is always so stays so. */
public final class AnyInputsTest {
    private static final int[] EDGES = {
        Integer.MIN_VALUE, Integer.MIN_VALUE + 1, -2, -1, 0, 0, 1, 1, 2, 3, 3, 4, 5, 15, 16, 63, 64, 99, 100, 180, 199,
        200, 299, 300, 486, 600, 699, 700, 2000, 2001, 5000, 5001, Integer.MAX_VALUE - 1, Integer.MAX_VALUE
    };

    public static void main(String[] args) {
        Random random = new Random(20261115L);
        for (int run = 0; run < 1500; run++) {
            run(random);
        }
        Checks.end();
    }

    private static void run(Random random) {
        ForkedInvites x = new ForkedInvites(any(random), random.nextInt());
        int sent = 0;
        int now = 0;
        // Nothing is promised after the 512th call; a round has at most 8 * 4 calls and three looks.
        for (int round = 0; round < 14; round++) {
            for (int i = 0; i < 8; i++) {
                step(x, random);
            }
            int sentLater = x.sent();
            int nowLater = x.now();
            int live = x.live();
            Checks.due("19: never less", sentLater >= sent, true);
            Checks.due("14: never less", nowLater >= now && nowLater - now <= 8 * 2000, true);
            Checks.due("18: at most 12", live >= 0 && live <= 12, true);
            sent = sentLater;
            now = nowLater;
        }
    }

    private static int any(Random random) {
        return random.nextInt(3) == 0 ? random.nextInt(4) : EDGES[random.nextInt(EDGES.length)];
    }

    private static void step(ForkedInvites x, Random random) {
        int a = any(random);
        int b = any(random);
        int c = any(random);
        int d = any(random);
        int small = random.nextInt(4);
        switch (random.nextInt(20)) {
            case 0: x.password(a, b); break;
            case 1: x.challenge(a); break;
            case 2: x.login(a, b, c); break;
            case 3: x.register(a, b, c, d, random.nextInt()); break;
            case 4: x.bindings(a); break;
            case 5: x.binding(a, b); break;
            case 6: x.invite(a, b, c, d); break;
            case 7: x.reply(a, b, c); break;
            case 8: x.cancelled(a, b); break;
            case 9: x.cancel(a); break;
            case 10: x.ack(a); break;
            case 11: x.tick(a); break;
            case 12: x.server(a); break;
            case 13: x.branch(a, b); break;
            case 14: x.result(a, b); break;
            case 15: x.message(a); break;
            case 16: admitAndRegister(x, small, random); break;
            case 17: x.invite(small, random.nextInt(4), 9, 0); break;
            case 18: x.reply(small, random.nextInt(4), 100 + random.nextInt(600)); break;
            default: x.tick(random.nextInt(30)); break;
        }
    }

    private static void admitAndRegister(ForkedInvites x, int u, Random random) {
        x.password(u, 0);
        Checks.admit(x, u);
        x.register(u, random.nextInt(16), random.nextInt(11), random.nextInt(5001), random.nextInt());
    }
}
