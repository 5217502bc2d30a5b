/** The sentences under 'Terms' on time, the registrar, nonces and digests: each that names a boundary, by itself. */
public final class RegistrarTermsTest {
    private static final int NONE = ForkedInvites.NONE;
    private static final int LEAST = Integer.MIN_VALUE;
    private static final int MOST = Integer.MAX_VALUE;

    public static void main(String[] args) {
        theLastCallOfAnObject();
        timeIsCountedFromZero();
        usersZeroToThree();
        contactsZeroToFifteen();
        theSecretIsAtFirstZero();
        atMostFourBindings();
        eachToAnotherContact();
        weightsZeroToTen();
        theGreatestWeightFirst();
        ofEqualsTheOneAddedFirst();
        aChangedOneCountsAsAddedWhenItFirstWas();
        aRemovedOneCountsAsAddedAnew();
        anEndedOneCountsAsAddedAnew();
        aBindingIsThereUntilItsTime();
        aBindingOfOneTick();
        aBindingOfTheLongestTime();
        anEndedBindingGivesRoom();
        anEndedBindingHasNoMark();
        anEndedBindingIsNotCalled();
        aChangedBindingEndsAtItsNewTime();
        noncesWrapAround();
        oneStateForAllUsers();
        aNonceIsGoodForLessThanHundredT1();
        aNonceIsGoodFromItsOwnTick();
        digestsWrapAround();
        nobodyIsAdmittedAtFirst();
        Checks.end();
    }

    /** "An object is used for at most 512 calls": the last of them must still be right, a million ticks on. */
    private static void theLastCallOfAnObject() {
        ForkedInvites x = new ForkedInvites(100, 5);
        for (int i = 0; i < 505; i++) {
            x.tick(2000);
        }
        int nonce = x.challenge(1);
        Checks.due("call 507", x.login(1, 1, Checks.digest(0, nonce, 1)), true);
        Checks.due("call 508", x.register(1, 15, 10, 5000, 0), 200);
        Checks.due("call 509", x.binding(1, 0), 15 + 16 * 5000);
        Checks.due("call 510", x.invite(3, 1, 1, 0), 2);
        Checks.due("call 511", x.now(), 1010000);
        Checks.due("call 512", x.message(1), ((1010000L * 4 + 3) * 8 + 7) * 1024 + 100);
    }

    /** "TIME is counted in ticks, from 0". */
    private static void timeIsCountedFromZero() {
        ForkedInvites x = new ForkedInvites(1, 5);
        x.invite(0, 0, 0, 0);
        Checks.due("the first tick is 0", x.message(0), Checks.message(0, 0, Checks.TO_CALLER, 483));
        Checks.due("now is 0", x.now(), 0);
        x.tick(1);
        Checks.due("the next is 1", x.message(0), Checks.message(1, 0, Checks.TO_CALLER, 483));
        Checks.due("now is 1", x.now(), 1);
    }

    /** "Users 0 .. 3". */
    private static void usersZeroToThree() {
        ForkedInvites x = new ForkedInvites(1, 5);
        for (int u = -1; u <= 4; u++) {
            boolean there = u >= 0 && u <= 3;
            Checks.due("password(" + u + ", 0)", x.password(u, 0), there);
            int nonce = x.challenge(u);
            Checks.due("challenge(" + u + ")", nonce != 0, there);
            Checks.due("login(" + u + ", ..)", x.login(u, 1, Checks.digest(0, nonce, 1)), there);
            Checks.due("register(" + u + ", ..)", x.register(u, 7, 5, 50, 0), there ? 200 : 400);
            Checks.due("bindings(" + u + ")", x.bindings(u), there ? 1 : 0);
            Checks.due("binding(" + u + ", 0)", x.binding(u, 0), there ? 7 + 16 * 50 : NONE);
        }
    }

    /** "CONTACTS (places) 0 .. 15". */
    private static void contactsZeroToFifteen() {
        for (int contact = 0; contact <= 15; contact++) {
            ForkedInvites x = new ForkedInvites(1, 5);
            Checks.due("contact " + contact, Checks.register(x, 2, contact, 5, 50, 0), 200);
            Checks.due("it is bound", x.binding(2, 0), contact + 16 * 50);
            x.invite(0, 2, 1, 0);
            Checks.due("it is called", x.branch(0, 0), 1 + 16 * contact);
        }
        ForkedInvites x = new ForkedInvites(1, 5);
        Checks.due("contact -2", Checks.register(x, 2, -2, 5, 50, 0), 400);
        Checks.due("contact -1", x.register(2, -1, 5, 50, 0), 400);
        Checks.due("contact 16", x.register(2, 16, 5, 50, 0), 400);
        Checks.due("none is bound", x.bindings(2), 0);
    }

    /** "A user has a SECRET (an int, at first 0)". */
    private static void theSecretIsAtFirstZero() {
        ForkedInvites x = new ForkedInvites(1, 5);
        for (int u = 0; u < 4; u++) {
            int nonce = x.challenge(u);
            Checks.due("secret 1", x.login(u, 1, Checks.digest(1, nonce, 1)), false);
            Checks.due("secret -1", x.login(u, 1, Checks.digest(-1, nonce, 1)), false);
            Checks.due("secret 0", x.login(u, 1, Checks.digest(0, nonce, 1)), true);
        }
    }

    /** "at most four BINDINGS". */
    private static void atMostFourBindings() {
        for (int u = 0; u < 4; u++) {
            ForkedInvites x = new ForkedInvites(1, 5);
            Checks.due("none at first", x.bindings(u), 0);
            for (int i = 0; i < 4; i++) {
                Checks.due("there is room for " + i, Checks.register(x, u, 15 - i, 5, 50, 0), 200);
                Checks.due("how many", x.bindings(u), i + 1);
            }
            Checks.due("a fifth", Checks.register(x, u, 3, 5, 50, 0), 503);
            Checks.due("still four", x.bindings(u), 4);
            Checks.due("the fourth", x.binding(u, 3), 12 + 16 * 50);
            Checks.due("no fifth", x.binding(u, 4), NONE);
        }
    }

    /** "each to another contact". */
    private static void eachToAnotherContact() {
        ForkedInvites x = new ForkedInvites(1, 5);
        for (int i = 0; i < 6; i++) {
            Checks.due("contact 3 again", Checks.register(x, 1, 3, i, 50 + i, i), 200);
            Checks.due("still one", x.bindings(1), 1);
        }
        Checks.due("as it was given last", x.binding(1, 0), 3 + 16 * 55);
    }

    /** "with a WEIGHT 0 .. 10". */
    private static void weightsZeroToTen() {
        for (int weight = 0; weight <= 10; weight++) {
            ForkedInvites x = new ForkedInvites(1, 5);
            Checks.due("weight " + weight, Checks.register(x, 1, 3, weight, 50, 0), 200);
        }
        ForkedInvites x = new ForkedInvites(1, 5);
        Checks.due("weight -1", Checks.register(x, 1, 3, -1, 50, 0), 400);
        Checks.due("weight 11", x.register(1, 3, 11, 50, 0), 400);
    }

    /** "They are in the order of their weights, the greatest first": also those next to each other, and the edges. */
    private static void theGreatestWeightFirst() {
        for (int weight = 0; weight < 10; weight++) {
            ForkedInvites x = bound(new int[] {3, 4}, new int[] {weight, weight + 1});
            order(weight + " and " + (weight + 1), x, 4, 3);
            x = bound(new int[] {3, 4}, new int[] {weight + 1, weight});
            order((weight + 1) + " and " + weight, x, 3, 4);
        }
        order("all four turned round", bound(new int[] {1, 2, 3, 4}, new int[] {0, 2, 9, 10}), 4, 3, 2, 1);
        order("all four as they are", bound(new int[] {1, 2, 3, 4}, new int[] {10, 9, 2, 0}), 1, 2, 3, 4);
    }

    /** "of equals the one first that was added first". */
    private static void ofEqualsTheOneAddedFirst() {
        for (int weight = 0; weight <= 10; weight++) {
            int[] weights = {weight, weight, weight, weight};
            order("all of weight " + weight, bound(new int[] {9, 2, 15, 0}, weights), 9, 2, 15, 0);
        }
        order("two and two", bound(new int[] {9, 2, 15, 0}, new int[] {4, 5, 4, 5}), 2, 0, 9, 15);
    }

    /** "a binding that is changed counts as added when it first was". */
    private static void aChangedOneCountsAsAddedWhenItFirstWas() {
        ForkedInvites x = bound(new int[] {6, 7, 8, 9}, new int[] {5, 5, 5, 5});
        change(x, 6, 5);
        order("the first, with the same weight", x, 6, 7, 8, 9);
        change(x, 7, 0);
        order("less weight", x, 6, 8, 9, 7);
        change(x, 7, 5);
        order("the old weight again", x, 6, 7, 8, 9);
        change(x, 9, 6);
        order("more weight", x, 9, 6, 7, 8);
        change(x, 7, 6);
        order("equal to one that was added later", x, 7, 9, 6, 8);
    }

    private static void aRemovedOneCountsAsAddedAnew() {
        ForkedInvites x = bound(new int[] {6, 7, 8}, new int[] {5, 5, 5});
        Checks.due("removed", Checks.register(x, 1, 6, 5, 0, 512), 200);
        Checks.due("added", Checks.register(x, 1, 6, 5, 4000, 768), 200);
        order("it is the last", x, 7, 8, 6);
    }

    private static void anEndedOneCountsAsAddedAnew() {
        ForkedInvites x = new ForkedInvites(1, 5);
        Checks.register(x, 1, 6, 5, 10, 0);
        Checks.register(x, 1, 7, 5, 100, 0);
        x.tick(10);
        Checks.due("added", Checks.register(x, 1, 6, 5, 100, 256), 200);
        order("it is the last", x, 7, 6);
    }

    private static ForkedInvites bound(int[] contacts, int[] weights) {
        ForkedInvites x = new ForkedInvites(1, 5);
        for (int i = 0; i < contacts.length; i++) {
            Checks.due("bound", Checks.register(x, 1, contacts[i], weights[i], 4000, 256), 200);
        }
        return x;
    }

    private static void change(ForkedInvites x, int contact, int weight) {
        x.tick(1);
        // A new name each time, so that no change is outdated.
        Checks.due("changed", Checks.register(x, 1, contact, weight, 4000, 256 * (x.now() + 1)), 200);
    }

    private static void order(String what, ForkedInvites x, int... contacts) {
        Checks.due(what + ": how many", x.bindings(1), contacts.length);
        for (int k = 0; k < contacts.length; k++) {
            Checks.due(what + ": binding " + k, x.binding(1, k) % 16, contacts[k]);
        }
        Checks.due(what + ": a call", x.invite(0, 1, 1, 0), 1 + contacts.length);
        for (int k = 0; k < contacts.length; k++) {
            Checks.due(what + ": branch " + k, x.branch(0, k) / 16, contacts[k]);
        }
        endCall(x);
    }

    private static void endCall(ForkedInvites x) {
        for (int k = 0; k < 4; k++) {
            x.reply(0, k, 200);
        }
        x.tick(64);
        Checks.due("the call is not in use", x.server(0), 0);
    }

    /** "A binding whose time to end has come (now is not less) is there no more." */
    private static void aBindingIsThereUntilItsTime() {
        ForkedInvites x = new ForkedInvites(1, 5);
        x.tick(33);
        Checks.register(x, 1, 3, 5, 40, 0);
        Checks.register(x, 1, 4, 4, 41, 0);
        x.tick(39);
        Checks.due("one tick before its time", x.bindings(1), 2);
        Checks.due("it is the first", x.binding(1, 0), 3 + 16);
        x.tick(1);
        Checks.due("at its time", x.bindings(1), 1);
        Checks.due("the other is the first", x.binding(1, 0), 4 + 16);
        Checks.due("and the only one", x.binding(1, 1), NONE);
        x.tick(1);
        Checks.due("at the time of the other", x.bindings(1), 0);
        Checks.due("there is none", x.binding(1, 0), NONE);
    }

    private static void aBindingOfOneTick() {
        ForkedInvites x = new ForkedInvites(1, 5);
        Checks.register(x, 1, 3, 5, 1, 0);
        Checks.due("in its tick", x.binding(1, 0), 3 + 16);
        x.tick(1);
        Checks.due("in the next", x.binding(1, 0), NONE);
    }

    private static void aBindingOfTheLongestTime() {
        ForkedInvites x = new ForkedInvites(1, 5);
        Checks.register(x, 1, 3, 5, 5000, 0);
        x.tick(2000);
        x.tick(2000);
        x.tick(999);
        Checks.due("in its last tick", x.binding(1, 0), 3 + 16);
        x.tick(1);
        Checks.due("in the next", x.binding(1, 0), NONE);
    }

    private static void anEndedBindingGivesRoom() {
        for (int ticks = 9; ticks <= 10; ticks++) {
            ForkedInvites x = new ForkedInvites(1, 5);
            for (int contact = 0; contact < 4; contact++) {
                Checks.register(x, 1, contact, 5, contact == 2 ? 10 : 100, 0);
            }
            x.tick(ticks);
            Checks.due("a fifth after " + ticks, Checks.register(x, 1, 9, 5, 100, 0), ticks < 10 ? 503 : 200);
        }
    }

    private static void anEndedBindingHasNoMark() {
        for (int ticks = 9; ticks <= 10; ticks++) {
            ForkedInvites x = new ForkedInvites(1, 5);
            Checks.register(x, 1, 3, 5, 10, 256);
            x.tick(ticks);
            Checks.due("its mark after " + ticks, Checks.register(x, 1, 3, 5, 10, 256), ticks < 10 ? 500 : 200);
            x = new ForkedInvites(1, 5);
            Checks.register(x, 1, 3, 5, 10, 256);
            x.tick(ticks);
            Checks.due("its mark, of all, after " + ticks, Checks.register(x, 1, -1, 5, 0, 256), ticks < 10 ? 500 : 200);
        }
    }

    private static void anEndedBindingIsNotCalled() {
        for (int ticks = 9; ticks <= 10; ticks++) {
            ForkedInvites x = new ForkedInvites(1, 5);
            Checks.register(x, 1, 3, 5, 10, 0);
            x.tick(ticks);
            x.invite(0, 1, 1, 0);
            Checks.due("called after " + ticks, x.server(0), ticks < 10 ? 1 + 8 * 100 : 2 + 8 * 480);
        }
    }

    private static void aChangedBindingEndsAtItsNewTime() {
        ForkedInvites x = new ForkedInvites(1, 5);
        Checks.register(x, 1, 3, 5, 10, 0);
        x.tick(9);
        Checks.register(x, 1, 3, 5, 10, 1);
        x.tick(9);
        Checks.due("longer", x.binding(1, 0), 3 + 16);
        Checks.register(x, 1, 3, 5, 50, 2);
        Checks.register(x, 1, 3, 5, 2, 3);
        x.tick(1);
        Checks.due("shorter", x.binding(1, 0), 3 + 16);
        x.tick(1);
        Checks.due("and over", x.bindings(1), 0);
    }

    /** "a new nonce is S * 69069 + 1 (wrapping), and S becomes that". */
    private static void noncesWrapAround() {
        int[][] seedsAndNonces = {
            {0, 1, 69070}, {5, 345346, -1917100901}, {-1, -69068, -475490395},
            {31091, 2147424280, 0}, {31092, -2147473947, 0}, {-31091, -2147424278, 0}, {-31092, 2147473949, 0},
            {MOST, 2147414580, 1671993253}, {LEAST, -2147483647, -2147414578}
        };
        for (int[] s : seedsAndNonces) {
            ForkedInvites x = new ForkedInvites(1, s[0]);
            Checks.due("the first of seed " + s[0], x.challenge(0), s[1]);
            int next = x.challenge(0);
            Checks.due("the next of seed " + s[0], next, s[2] == 0 ? (int) (s[1] * 69069L + 1) : s[2]);
            Checks.due("the latest one counts", x.login(0, 1, Checks.digest(0, s[1], 1)), false);
            Checks.due("the latest one counts", x.login(0, 1, Checks.digest(0, next, 1)), true);
        }
    }

    /** "A user's nonce is the latest one made for it". */
    private static void oneStateForAllUsers() {
        ForkedInvites x = new ForkedInvites(1, 0);
        int s = 0;
        int[] nonces = new int[4];
        for (int i = 0; i < 12; i++) {
            s = s * 69069 + 1;
            nonces[i % 4] = s;
            Checks.due("nonce " + i, x.challenge(i % 4), s);
        }
        for (int u = 0; u < 4; u++) {
            int other = nonces[(u + 1) % 4];
            Checks.due("another's nonce", x.login(u, 1, Checks.digest(0, other, 1)), false);
            Checks.due("its own nonce", x.login(u, 1, Checks.digest(0, nonces[u], 1)), true);
        }
    }

    /** "it is good for less than 100 * T1 ticks". */
    private static void aNonceIsGoodForLessThanHundredT1() {
        int[][] givenAndTaken = {{0, 1}, {1, 1}, {2, 2}, {7, 7}, {99, 99}, {100, 100}, {101, 100}};
        for (int[] t1 : givenAndTaken) {
            ForkedInvites x = new ForkedInvites(t1[0], 5);
            int nonce = x.challenge(1);
            ticks(x, 100 * t1[1] - 1);
            Checks.due("in the last tick, T1 " + t1[0], x.login(1, 1, Checks.digest(0, nonce, 1)), true);
            x.tick(1);
            Checks.due("in the next, T1 " + t1[0], x.login(1, 2, Checks.digest(0, nonce, 2)), false);
            x.tick(1);
            Checks.due("and later, T1 " + t1[0], x.login(1, 2, Checks.digest(0, nonce, 2)), false);
        }
    }

    /** ".. from the tick in which it was made on": not from 0, nor from another user's challenge or a login. */
    private static void aNonceIsGoodFromItsOwnTick() {
        ForkedInvites x = new ForkedInvites(1, 5);
        x.tick(250);
        int nonce = x.challenge(1);
        Checks.due("in its own tick", x.login(1, 1, Checks.digest(0, nonce, 1)), true);
        x.tick(50);
        x.challenge(2);
        Checks.due("a login on the way", x.login(1, 2, Checks.digest(0, nonce, 2)), true);
        x.tick(49);
        Checks.due("in the last tick", x.login(1, 3, Checks.digest(0, nonce, 3)), true);
        x.tick(1);
        Checks.due("in the next", x.login(1, 4, Checks.digest(0, nonce, 4)), false);
        int newer = x.challenge(1);
        x.tick(99);
        Checks.due("a newer one has its own time", x.login(1, 1, Checks.digest(0, newer, 1)), true);
    }

    private static void ticks(ForkedInvites x, int n) {
        for (int left = n; left > 0; left -= 2000) {
            x.tick(Math.min(left, 2000));
        }
    }

    /** "DIGEST(s, n, c), of ints, wrapping": by a seed, its nonce, a secret, a count, and the digest worked out by hand. */
    private static void digestsWrapAround() {
        int[][] known = {
            {0, 1, 0, 1, -1638201245}, {1511872763, 0, 0, 1, 2654631}, {1511872763, 0, -1, 1, 213312855},
            {-635610885, LEAST, 0, 1, -102346769}, {876261878, MOST, LEAST, 1, 213312855},
            {5, 345346, 77, 1, -108011391}, {5, 345346, 77, MOST, 2033509187},
            {0, 1, MOST, 809, 612164858}, {-1674062202, -987654321, 123456789, 1000000, 1540306449}
        };
        for (int[] k : known) {
            ForkedInvites x = new ForkedInvites(1, k[0]);
            x.password(0, k[2]);
            Checks.due("the nonce", x.challenge(0), k[1]);
            Checks.due("one less", x.login(0, k[3], k[4] - 1), false);
            Checks.due("one more", x.login(0, k[3], k[4] + 1), false);
            Checks.due("the digest", x.login(0, k[3], k[4]), true);
        }
    }

    /** "A user may be ADMITTED (at first not)": nor does a nonce alone admit. */
    private static void nobodyIsAdmittedAtFirst() {
        ForkedInvites x = new ForkedInvites(1, 5);
        for (int u = 0; u < 4; u++) {
            Checks.due("at first", x.register(u, 0, 0, 1, 0), 401);
            int nonce = x.challenge(u);
            Checks.due("with a nonce", x.register(u, 0, 0, 1, 0), 401);
            x.login(u, 1, Checks.digest(0, nonce, 1));
            Checks.due("admitted", x.register(u, 0, 0, 1, 0), 200);
            Checks.due("once", x.register(u, 0, 0, 1, 256), 401);
        }
    }
}
