/** Promises 1 to 7: a new object, password, challenge, login, register, bindings, binding. */
public final class RegistrarTest {
    private static final int NONE = ForkedInvites.NONE;

    public static void main(String[] args) {
        newObject();
        t1IsHeldWithinItsBounds();
        password();
        challenge();
        nonceThatIsZero();
        login();
        nonceGrowsOld();
        registerRefusesWrongInputs();
        registerTakesTheEdges();
        registerUsesUpTheAdmission();
        registerRefusesOldMarks();
        marksBelowZero();
        oldMarksOfAllBindings();
        registerWithoutRoom();
        registerRemoves();
        orderOfBindings();
        bindingsEnd();
        usersAreApart();
        lookingAtNobody();
        Checks.end();
    }

    private static void newObject() {
        ForkedInvites x = new ForkedInvites(2, 5);
        Checks.due("1: now", x.now(), 0);
        Checks.due("1: sent", x.sent(), 0);
        Checks.due("1: live", x.live(), 0);
        Checks.due("1: message(0)", x.message(0), NONE);
        for (int i = 0; i < 4; i++) {
            Checks.due("1: bindings", x.bindings(i), 0);
            Checks.due("1: binding", x.binding(i, 0), NONE);
            Checks.due("1: server", x.server(i), 0);
            Checks.due("1: branch", x.branch(i, 0), 0);
            Checks.due("1: no nonce", x.login(i, 1, Checks.digest(0, 0, 1)), false);
            Checks.due("1: not admitted", x.register(i, 0, 0, 1, 0), 401);
        }
    }

    private static void t1IsHeldWithinItsBounds() {
        int[][] givenAndTaken = {{Integer.MIN_VALUE, 1}, {0, 1}, {1, 1}, {2, 2}, {100, 100}, {101, 100}, {Integer.MAX_VALUE, 100}};
        for (int[] t1 : givenAndTaken) {
            ForkedInvites x = new ForkedInvites(t1[0], 5);
            x.invite(0, 0, 0, 0);
            Checks.due("1: before T1 of " + t1[0], x.tick(t1[1] - 1), 0);
            Checks.due("1: at T1 of " + t1[0], x.tick(1), 1);
        }
    }

    private static void password() {
        ForkedInvites x = new ForkedInvites(1, 5);
        int nonce = x.challenge(3);
        Checks.due("2: password(3, 77)", x.password(3, 77), true);
        Checks.due("2: the old secret", x.login(3, 1, Checks.digest(0, nonce, 1)), false);
        Checks.due("2: the nonce stays", x.login(3, 1, Checks.digest(77, nonce, 1)), true);
        Checks.due("2: password(3, -9)", x.password(3, -9), true);
        Checks.due("2: the admission stays", x.register(3, 0, 0, 10, 0), 200);
        Checks.due("2: the count stays", x.login(3, 1, Checks.digest(-9, nonce, 1)), false);
        Checks.due("2: the newest secret", x.login(3, 2, Checks.digest(-9, nonce, 2)), true);
        Checks.due("2: password(0, 1)", x.password(0, 1), true);
        Checks.due("2: another user's secret", x.login(3, 3, Checks.digest(-9, nonce, 3)), true);
        Checks.due("2: password(-1, 1)", x.password(-1, 1), false);
        Checks.due("2: password(4, 1)", x.password(4, 1), false);
    }

    private static void challenge() {
        ForkedInvites x = new ForkedInvites(1, 5);
        Checks.due("3: challenge(-1)", x.challenge(-1), 0);
        Checks.due("3: challenge(4)", x.challenge(4), 0);
        Checks.due("3: the first nonce", x.challenge(0), 345346);
        Checks.due("3: the next one, of another user", x.challenge(3), 345346 * 69069 + 1);
        Checks.due("3: the first one stays user 0's", x.login(0, 1, Checks.digest(0, 345346, 1)), true);
        int newest = x.challenge(0);
        Checks.due("3: wrapping", newest, (345346 * 69069 + 1) * 69069 + 1);
        Checks.due("3: the latest one counts", x.login(0, 2, Checks.digest(0, 345346, 2)), false);
        Checks.due("3: no count was used with it", x.login(0, 1, Checks.digest(0, newest, 1)), true);
    }

    private static void nonceThatIsZero() {
        // The inverse of 69069 modulo 2^32, by Newton's steps; this seed's first nonce is 0.
        int inverse = 69069;
        for (int i = 0; i < 5; i++) {
            inverse *= 2 - 69069 * inverse;
        }
        ForkedInvites x = new ForkedInvites(1, -inverse);
        Checks.due("3: a nonce of 0", x.challenge(2), 0);
        Checks.due("4: a nonce of 0 is one", x.login(2, 1, Checks.digest(0, 0, 1)), true);
    }

    private static void login() {
        ForkedInvites x = new ForkedInvites(2, 5);
        x.password(1, 77);
        Checks.due("4: without a nonce", x.login(1, 1, Checks.digest(77, 0, 1)), false);
        int nonce = x.challenge(1);
        Checks.due("4: count 0", x.login(1, 0, Checks.digest(77, nonce, 0)), false);
        Checks.due("4: count -1", x.login(1, -1, Checks.digest(77, nonce, -1)), false);
        Checks.due("4: a wrong answer", x.login(1, 1, -108011390), false);
        Checks.due("4: a wrong answer admits nobody", x.register(1, 0, 0, 1, 0), 401);
        Checks.due("4: a known digest", x.login(1, 1, -108011391), true);
        Checks.due("4: a count again", x.login(1, 1, -108011391), false);
        Checks.due("4: a false login takes no admission", x.register(1, 0, 0, 1, 0), 200);
        Checks.due("4: a wrong answer uses no count", x.login(1, 900, 0), false);
        Checks.due("4: a gap in the counts", x.login(1, 7, Checks.digest(77, nonce, 7)), true);
        Checks.due("4: a lesser count", x.login(1, 6, Checks.digest(77, nonce, 6)), false);
        int most = Integer.MAX_VALUE;
        Checks.due("4: the greatest count", x.login(1, most, Checks.digest(77, nonce, most)), true);
        Checks.due("4: user -1", x.login(-1, 1, Checks.digest(0, nonce, 1)), false);
        Checks.due("4: user 4", x.login(4, 1, Checks.digest(0, nonce, 1)), false);
        Checks.due("4: a user without a nonce", x.login(0, 1, Checks.digest(0, nonce, 1)), false);
    }

    private static void nonceGrowsOld() {
        ForkedInvites x = new ForkedInvites(2, 5);
        x.tick(50);
        int nonce = x.challenge(0);
        x.tick(199);
        Checks.due("4: the last tick of a nonce", x.login(0, 1, Checks.digest(0, nonce, 1)), true);
        x.tick(1);
        Checks.due("4: a nonce too old", x.login(0, 2, Checks.digest(0, nonce, 2)), false);
        Checks.due("4: the admission outlives it", x.register(0, 0, 0, 1, 0), 200);
    }

    private static void registerRefusesWrongInputs() {
        ForkedInvites x = new ForkedInvites(1, 5);
        int[][] wrong = {
            {-1, 0, 0, 1}, {4, 0, 0, 1}, {1, -2, 0, 0}, {1, 16, 0, 1}, {1, 0, -1, 1}, {1, 0, 11, 1},
            {1, 0, 0, -1}, {1, 0, 0, 5001}, {1, -1, 0, 1}, {1, -1, 11, 0}
        };
        Checks.due("5: 400 before 401", x.register(1, 16, 0, 1, 0), 400);
        Checks.admit(x, 1);
        for (int[] w : wrong) {
            Checks.due("5: wrong input", x.register(w[0], w[1], w[2], w[3], 0), 400);
        }
        Checks.due("5: 400 leaves the admission", x.register(1, 0, 0, 1, 0), 200);
    }

    private static void registerTakesTheEdges() {
        ForkedInvites x = new ForkedInvites(1, 5);
        Checks.due("5: the least", Checks.register(x, 0, 0, 0, 1, Integer.MIN_VALUE), 200);
        Checks.due("5: the most", Checks.register(x, 3, 15, 10, 5000, Integer.MAX_VALUE), 200);
        Checks.due("7: the least", x.binding(0, 0), 16);
        Checks.due("7: the most", x.binding(3, 0), 15 + 16 * 5000);
    }

    private static void registerUsesUpTheAdmission() {
        ForkedInvites x = new ForkedInvites(1, 5);
        Checks.due("5: not admitted", x.register(1, 0, 0, 1, 0), 401);
        Checks.due("5: after 200 ..", Checks.register(x, 1, 0, 0, 100, 256), 200);
        Checks.due("5: .. admitted no more", x.register(1, 0, 0, 1, 512), 401);
        Checks.due("5: after 500 ..", Checks.register(x, 1, 0, 0, 100, 256), 500);
        Checks.due("5: .. admitted no more", x.register(1, 0, 0, 1, 512), 401);
        for (int contact = 1; contact < 4; contact++) {
            Checks.register(x, 1, contact, 0, 100, 256);
        }
        Checks.due("5: after 503 ..", Checks.register(x, 1, 9, 0, 100, 256), 503);
        Checks.due("5: .. admitted no more", x.register(1, 0, 0, 1, 512), 401);
    }

    private static void registerRefusesOldMarks() {
        ForkedInvites x = new ForkedInvites(1, 5);
        int mark = 7 * 256 + 100;
        Checks.register(x, 1, 3, 5, 100, mark);
        Checks.due("5: the same number", Checks.register(x, 1, 3, 9, 200, mark), 500);
        Checks.due("5: a lesser number", Checks.register(x, 1, 3, 9, 200, mark - 1), 500);
        Checks.due("5: to remove, too", Checks.register(x, 1, 3, 9, 0, mark), 500);
        Checks.due("7: 500 changes nothing", x.binding(1, 0), 3 + 16 * 100);
        Checks.due("5: another contact", Checks.register(x, 1, 4, 5, 100, mark), 200);
        Checks.due("5: a greater number", Checks.register(x, 1, 3, 5, 300, mark + 1), 200);
        Checks.due("7: it was changed", x.binding(1, 0), 3 + 16 * 300);
        Checks.due("5: the number was changed too", Checks.register(x, 1, 3, 5, 300, mark + 1), 500);
        Checks.due("5: another name", Checks.register(x, 1, 3, 5, 400, 8 * 256), 200);
        Checks.due("5: the name was changed too", Checks.register(x, 1, 3, 5, 400, mark), 200);
        x.tick(400);
        Checks.due("5: a binding that ended has no mark", Checks.register(x, 1, 3, 5, 100, mark), 200);
    }

    private static void marksBelowZero() {
        ForkedInvites x = new ForkedInvites(1, 5);
        Checks.register(x, 1, 3, 5, 100, -1);
        Checks.due("5: name -1, number 254", Checks.register(x, 1, 3, 5, 100, -2), 500);
        Checks.due("5: name -2, number 255", Checks.register(x, 1, 3, 5, 100, -257), 200);
        Checks.due("5: name -1, number 0", Checks.register(x, 1, 3, 5, 100, -256), 200);
        Checks.due("5: name 0xFFFFFF is not -1", Checks.register(x, 1, 3, 5, 100, 0x7FFFFF00), 200);
    }

    private static void oldMarksOfAllBindings() {
        ForkedInvites x = new ForkedInvites(1, 5);
        Checks.register(x, 1, 3, 5, 100, 256 + 9);
        Checks.register(x, 1, 4, 5, 200, 512 + 20);
        Checks.due("5: one of them is newer", Checks.register(x, 1, -1, 0, 0, 512 + 20), 500);
        Checks.due("6: none was removed", x.bindings(1), 2);
        Checks.due("5: the first of them is newer", Checks.register(x, 1, -1, 0, 0, 256 + 9), 500);
        Checks.due("5: none is newer", Checks.register(x, 1, -1, 0, 0, 256 + 10), 200);
        Checks.due("6: all were removed", x.bindings(1), 0);
        Checks.due("5: none to remove", Checks.register(x, 1, -1, 10, 0, 0), 200);
    }

    private static void registerWithoutRoom() {
        ForkedInvites x = new ForkedInvites(1, 5);
        for (int contact = 0; contact < 4; contact++) {
            Checks.due("5: room", Checks.register(x, 2, contact, 5, 50 + contact, 256), 200);
        }
        Checks.due("5: no room", Checks.register(x, 2, 4, 5, 50, 256), 503);
        Checks.due("6: 503 adds nothing", x.bindings(2), 4);
        Checks.due("5: a change needs no room", Checks.register(x, 2, 0, 5, 50, 512), 200);
        Checks.due("5: removing needs no room", Checks.register(x, 2, 4, 5, 0, 256), 200);
        Checks.due("6: another is not removed", x.bindings(2), 4);
        x.tick(50);
        Checks.due("5: one that ended gives room", Checks.register(x, 2, 4, 5, 50, 256), 200);
        Checks.due("5: and no more", Checks.register(x, 2, 5, 5, 50, 256), 503);
    }

    private static void registerRemoves() {
        ForkedInvites x = Checks.placed(1, 3, 4, 5);
        Checks.due("5: one removed", Checks.register(x, 1, 4, 0, 0, 257), 200);
        Checks.due("6: two are left", x.bindings(1), 2);
        Checks.due("7: the first", x.binding(1, 0) % 16, 3);
        Checks.due("7: the second", x.binding(1, 1) % 16, 5);
        Checks.due("7: no third", x.binding(1, 2), NONE);
        Checks.due("5: none to remove", Checks.register(x, 1, 4, 0, 0, 256), 200);
        Checks.due("6: still two", x.bindings(1), 2);
        Checks.due("5: a removed one is added anew", Checks.register(x, 1, 3, 0, 0, 257), 200);
        Checks.due("5: its mark is forgotten", Checks.register(x, 1, 3, 5, 60, 256), 200);
        order("7: and it is the last now", x, 5, 3);
        Checks.due("5: the last is removed", Checks.register(x, 1, 3, 5, 0, 257), 200);
        order("7: the other is left", x, 5);
        Checks.due("5: the only one is removed", Checks.register(x, 1, 5, 5, 0, 257), 200);
        Checks.due("6: none is left", x.bindings(1), 0);
    }

    private static void orderOfBindings() {
        ForkedInvites x = new ForkedInvites(1, 5);
        Checks.register(x, 1, 7, 5, 100, 0);
        Checks.register(x, 1, 2, 10, 100, 0);
        Checks.register(x, 1, 9, 5, 100, 0);
        Checks.register(x, 1, 1, 0, 100, 0);
        order("7: by weight, then as added", x, 2, 7, 9, 1);
        Checks.register(x, 1, 7, 0, 100, 256);
        order("7: a changed weight, first added", x, 2, 9, 7, 1);
        Checks.register(x, 1, 7, 5, 100, 512);
        order("7: changed back", x, 2, 7, 9, 1);
        Checks.register(x, 1, 1, 10, 100, 256);
        order("7: a changed weight, last added", x, 2, 1, 7, 9);
    }

    private static void order(String what, ForkedInvites x, int... contacts) {
        for (int k = 0; k < contacts.length; k++) {
            Checks.due(what + ", " + k, x.binding(1, k) % 16, contacts[k]);
        }
    }

    private static void bindingsEnd() {
        ForkedInvites x = new ForkedInvites(1, 5);
        x.tick(7);
        Checks.register(x, 1, 3, 5, 10, 0);
        Checks.register(x, 1, 4, 5, 20, 0);
        x.tick(9);
        Checks.due("6: the last tick of a binding", x.bindings(1), 2);
        Checks.due("7: one tick until it ends", x.binding(1, 0), 3 + 16);
        x.tick(1);
        Checks.due("7: now it is there no more", x.binding(1, 0), 4 + 16 * 10);
        Checks.due("6: one is left", x.bindings(1), 1);
        Checks.due("7: no second", x.binding(1, 1), NONE);
        Checks.register(x, 1, 3, 5, 5, 0);
        order("7: added again after its end", x, 4, 3);
        x.tick(1000);
        Checks.due("6: all ended", x.bindings(1), 0);
    }

    private static void usersAreApart() {
        ForkedInvites x = Checks.placed(1, 3);
        Checks.due("6: another user", x.bindings(0), 0);
        Checks.admit(x, 0);
        Checks.due("5: another user's admission", x.register(1, 3, 5, 100, 512), 401);
        Checks.due("5: another user's mark", x.register(0, 3, 5, 100, 256), 200);
        Checks.due("5: remove all of user 0", Checks.register(x, 0, -1, 0, 0, 512), 200);
        Checks.due("6: user 1 keeps its own", x.bindings(1), 1);
    }

    private static void lookingAtNobody() {
        ForkedInvites x = Checks.placed(1, 3);
        Checks.due("6: bindings(-1)", x.bindings(-1), 0);
        Checks.due("6: bindings(4)", x.bindings(4), 0);
        Checks.due("7: binding(-1, 0)", x.binding(-1, 0), NONE);
        Checks.due("7: binding(4, 0)", x.binding(4, 0), NONE);
        Checks.due("7: binding(1, -1)", x.binding(1, -1), NONE);
        Checks.due("7: binding(1, 1)", x.binding(1, 1), NONE);
        Checks.due("7: the binding of contact 3", x.binding(1, 0), 3 + 16 * 5000);
    }
}
