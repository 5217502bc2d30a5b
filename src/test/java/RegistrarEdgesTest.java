/** Promises 1 to 7: each sentence that names a boundary, by itself; what a refused call leaves is in RefusedTest. */
public final class RegistrarEdgesTest {
    private static final int NONE = ForkedInvites.NONE;
    private static final int LEAST = Integer.MIN_VALUE;
    private static final int MOST = Integer.MAX_VALUE;

    public static void main(String[] args) {
        newObjectIsEmpty();
        t1IsAtLeastOne();
        t1IsAtMostHundred();
        objectsAreApart();
        passwordTakesEveryInt();
        passwordLeavesNonceAndAdmission();
        challengeBeginsTheCountsAnew();
        challengeLeavesTheAdmission();
        loginWithTheLeastAndTheGreatestCount();
        loginWithTheNextCount();
        loginTwiceAdmitsOnce();
        registerAtEachBound();
        registerAllOnlyWithEndsZero();
        registerAnswersTheFirstThatHolds();
        markOfOneContact();
        marksAtTheEndsOfTheirNumbers();
        marksBelowZeroKeepTheirSign();
        markOfAllContacts();
        markOfAnotherContactOrUser();
        aChangeTakesTheNewMark();
        roomForAFifth();
        removeAll();
        removeOne();
        bindingsOfNobody();
        bindingOfNoIndex();
        bindingTellsTheTicks();
        Checks.end();
    }

    /** 1: "No bindings, nonces or calls; now is 0; nothing was sent." */
    private static void newObjectIsEmpty() {
        ForkedInvites x = new ForkedInvites(1, 0);
        Checks.due("1: now", x.now(), 0);
        Checks.due("1: sent", x.sent(), 0);
        Checks.due("1: live", x.live(), 0);
        for (int k = 0; k < 64; k++) {
            Checks.due("1: message(" + k + ")", x.message(k), NONE);
        }
        for (int i = 0; i < 4; i++) {
            Checks.due("1: bindings", x.bindings(i), 0);
            Checks.due("1: server", x.server(i), 0);
            Checks.due("1: cancel", x.cancel(i), NONE);
            Checks.due("1: ack", x.ack(i), false);
            for (int k = 0; k < 4; k++) {
                Checks.due("1: binding", x.binding(i, k), NONE);
                Checks.due("1: branch", x.branch(i, k), 0);
                Checks.due("1: result", x.result(i, k), 0);
                Checks.due("1: reply", x.reply(i, k, 200), NONE);
                Checks.due("1: cancelled", x.cancelled(i, k), false);
            }
            // With seed 0, a nonce that is S itself or 0 would be taken here.
            Checks.due("1: login", x.login(i, 1, Checks.digest(0, 0, 1)), false);
        }
        Checks.due("1: no timer is set", x.tick(2000), 0);
    }

    /** 1: "T1 is t1, but at least 1". */
    private static void t1IsAtLeastOne() {
        for (int t1 : new int[] {LEAST, -100, -1, 0, 1}) {
            Checks.due("1: T1 of " + t1, t1Of(new ForkedInvites(t1, 0)), 1);
        }
        Checks.due("1: T1 of 2", t1Of(new ForkedInvites(2, 0)), 2);
    }

    /** 1: ".. and at most 100". */
    private static void t1IsAtMostHundred() {
        for (int t1 : new int[] {100, 101, 200, MOST}) {
            Checks.due("1: T1 of " + t1, t1Of(new ForkedInvites(t1, 0)), 100);
        }
        Checks.due("1: T1 of 99", t1Of(new ForkedInvites(99, 0)), 99);
    }

    /** The ticks until a refusal is first sent again. */
    private static int t1Of(ForkedInvites x) {
        x.invite(0, 0, 0, 0);
        for (int i = 1; i <= 200; i++) {
            if (x.tick(1) == 1) {
                return i;
            }
        }
        return NONE;
    }

    private static void objectsAreApart() {
        ForkedInvites one = new ForkedInvites(1, 5);
        ForkedInvites other = new ForkedInvites(3, 7);
        Checks.register(one, 1, 3, 5, 50, 0);
        one.invite(0, 1, 1, 0);
        one.tick(1);
        Checks.due("1: the other has no binding", other.bindings(1), 0);
        Checks.due("1: nor a call", other.live(), 0);
        Checks.due("1: nor a message", other.sent(), 0);
        Checks.due("1: nor a tick", other.now(), 0);
        Checks.due("1: and its own S", other.challenge(1), 7 * 69069 + 1);
    }

    /** 2: "The secret of user u becomes s". */
    private static void passwordTakesEveryInt() {
        ForkedInvites x = new ForkedInvites(1, 5);
        int count = 0;
        for (int s : new int[] {LEAST, LEAST + 1, -1, 0, 1, MOST - 1, MOST}) {
            for (int u = 0; u < 4; u++) {
                Checks.due("2: password(" + u + ", " + s + ")", x.password(u, s), true);
                int nonce = x.challenge(u);
                Checks.due("2: it is the secret", x.login(u, 1, Checks.digest(s, nonce, 1)), true);
                count++;
            }
        }
        Checks.due("2: all were asked", count, 28);
    }

    /** 2: "(nonce and admission stay;)". */
    private static void passwordLeavesNonceAndAdmission() {
        ForkedInvites x = new ForkedInvites(1, 5);
        int nonce = x.challenge(1);
        x.login(1, 4, Checks.digest(0, nonce, 4));
        x.password(1, 9);
        Checks.due("2: the admission stays", x.register(1, 0, 0, 9, 0), 200);
        Checks.due("2: the used count stays", x.login(1, 4, Checks.digest(9, nonce, 4)), false);
        Checks.due("2: the nonce stays", x.login(1, 5, Checks.digest(9, nonce, 5)), true);
        x.register(1, -1, 0, 0, 256);
        x.password(1, 0);
        Checks.due("2: none is admitted by it", x.register(1, 0, 0, 9, 0), 401);
        x.tick(99);
        x.password(1, 7);
        x.tick(1);
        Checks.due("2: the nonce gets no older and no younger", x.login(1, 6, Checks.digest(7, nonce, 6)), false);
    }

    /** 3: "a new nonce for user u, with which no count was used yet". */
    private static void challengeBeginsTheCountsAnew() {
        ForkedInvites x = new ForkedInvites(1, 5);
        int first = x.challenge(1);
        Checks.due("3: the greatest count", x.login(1, MOST, Checks.digest(0, first, MOST)), true);
        int second = x.challenge(1);
        Checks.due("3: the least count again", x.login(1, 1, Checks.digest(0, second, 1)), true);
        Checks.due("3: used now", x.login(1, 1, Checks.digest(0, second, 1)), false);
        x.challenge(2);
        Checks.due("3: another's challenge changes no count", x.login(1, 1, Checks.digest(0, second, 1)), false);
    }

    private static void challengeLeavesTheAdmission() {
        ForkedInvites x = new ForkedInvites(1, 5);
        Checks.admit(x, 1);
        x.challenge(1);
        Checks.due("3: still admitted", x.register(1, 0, 0, 9, 0), 200);
        x.challenge(1);
        Checks.due("3: still not admitted", x.register(1, 0, 0, 9, 256), 401);
    }

    /** 4: "c is more than 0". */
    private static void loginWithTheLeastAndTheGreatestCount() {
        int[][] counts = {{LEAST, 0}, {-1, 0}, {0, 0}, {1, 1}, {2, 1}, {MOST, 1}};
        for (int[] c : counts) {
            ForkedInvites x = new ForkedInvites(1, 5);
            int nonce = x.challenge(1);
            Checks.due("4: count " + c[0], x.login(1, c[0], Checks.digest(0, nonce, c[0])), c[1] == 1);
            Checks.due("4: admitted by it", x.register(1, 0, 0, 9, 0), c[1] == 1 ? 200 : 401);
        }
    }

    /** 4: ".. and more than every count used with that nonce". */
    private static void loginWithTheNextCount() {
        ForkedInvites x = new ForkedInvites(1, 5);
        int nonce = x.challenge(1);
        int[][] counts = {{5, 1}, {5, 0}, {4, 0}, {6, 1}, {6, 0}, {1, 0}, {MOST - 1, 1}, {MOST, 1}, {MOST, 0}, {MOST - 1, 0}, {LEAST, 0}};
        for (int[] c : counts) {
            Checks.due("4: count " + c[0], x.login(1, c[0], Checks.digest(0, nonce, c[0])), c[1] == 1);
        }
    }

    private static void loginTwiceAdmitsOnce() {
        ForkedInvites x = new ForkedInvites(1, 5);
        int nonce = x.challenge(1);
        Checks.due("4: once", x.login(1, 1, Checks.digest(0, nonce, 1)), true);
        Checks.due("4: twice", x.login(1, 2, Checks.digest(0, nonce, 2)), true);
        Checks.due("5: once", x.register(1, 0, 0, 9, 0), 200);
        Checks.due("5: but not twice", x.register(1, 1, 0, 9, 0), 401);
    }

    /** 5: "400: u is not 0 .. 3, contact not -1 .. 15, weight not 0 .. 10, ends not 0 .. 5000". */
    private static void registerAtEachBound() {
        int[][] asked = {
            {-1, 3, 5, 50, 400}, {0, 3, 5, 50, 200}, {3, 3, 5, 50, 200}, {4, 3, 5, 50, 400},
            {1, -2, 5, 0, 400}, {1, -1, 5, 0, 200}, {1, 0, 5, 50, 200}, {1, 15, 5, 50, 200}, {1, 16, 5, 50, 400},
            {1, 3, -1, 50, 400}, {1, 3, 0, 50, 200}, {1, 3, 10, 50, 200}, {1, 3, 11, 50, 400},
            {1, 3, 5, -1, 400}, {1, 3, 5, 0, 200}, {1, 3, 5, 1, 200}, {1, 3, 5, 5000, 200}, {1, 3, 5, 5001, 400},
            {1, 3, -1, 0, 400}, {1, 3, 11, 0, 400}, {1, -1, 0, 0, 200}, {1, -1, 10, 0, 200}, {1, -1, -1, 0, 400}, {1, -1, 11, 0, 400}
        };
        for (int[] a : asked) {
            ForkedInvites x = new ForkedInvites(1, 5);
            for (int u = 0; u < 4; u++) {
                Checks.admit(x, u);
            }
            String what = "5: register(" + a[0] + ", " + a[1] + ", " + a[2] + ", " + a[3] + ", 0)";
            Checks.due(what, x.register(a[0], a[1], a[2], a[3], 0), a[4]);
            boolean bound = a[4] == 200 && a[3] > 0;
            Checks.due(what + ": bindings", x.bindings(a[0]), bound ? 1 : 0);
            Checks.due(what + ": binding", x.binding(a[0], 0), bound ? a[1] + 16 * a[3] : NONE);
        }
    }

    /** 5: "or contact is -1 and ends not 0". */
    private static void registerAllOnlyWithEndsZero() {
        for (int ends : new int[] {-1, 0, 1, 2, 5000, 5001}) {
            ForkedInvites x = Checks.placed(1, 3, 4);
            Checks.due("5: all, ends " + ends, Checks.register(x, 1, -1, 5, ends, 512), ends == 0 ? 200 : 400);
            Checks.due("6: what is left", x.bindings(1), ends == 0 ? 0 : 2);
            Checks.due("5: the admission", x.register(1, 9, 5, 9, 512), ends == 0 ? 401 : 200);
        }
    }

    /** 5: "Answers the first of these that holds." */
    private static void registerAnswersTheFirstThatHolds() {
        ForkedInvites x = Checks.placed(1, 0, 1, 2, 3);
        Checks.due("5: 400 before 401", x.register(1, 16, 5, 9, 256), 400);
        Checks.due("5: 401 before 500", x.register(1, 0, 5, 9, 256), 401);
        Checks.due("5: 401 before 503", x.register(1, 9, 5, 9, 256), 401);
        Checks.admit(x, 1);
        Checks.due("5: 400 before 500", x.register(1, 0, 11, 9, 256), 400);
        Checks.due("5: 400 before 503", x.register(1, 9, 5, 5001, 512), 400);
        Checks.due("5: 500", x.register(1, 0, 5, 9, 256), 500);
        Checks.due("5: 503", Checks.register(x, 1, 9, 5, 9, 256), 503);
    }

    /** 5: "u's binding to the contact .. has the same call name and a call number that is not less". */
    private static void markOfOneContact() {
        int mark = 7 * 256 + 100;
        int[][] marks = {
            {mark - 1, 500}, {mark, 500}, {mark + 1, 200}, {mark - 256, 200}, {mark + 256, 200},
            {7 * 256, 500}, {7 * 256 + 255, 200}, {6 * 256 + 255, 200}, {8 * 256, 200}
        };
        for (int[] m : marks) {
            ForkedInvites x = new ForkedInvites(1, 5);
            Checks.register(x, 1, 3, 5, 60, mark);
            Checks.due("5: to change, mark " + m[0], Checks.register(x, 1, 3, 5, 80, m[0]), m[1]);
            Checks.due("7: ends", x.binding(1, 0), 3 + 16 * (m[1] == 200 ? 80 : 60));
            int kept = m[1] == 200 ? m[0] : mark;
            Checks.due("5: the mark that it has now", Checks.register(x, 1, 3, 5, 80, kept), 500);
            Checks.due("5: the one after it", Checks.register(x, 1, 3, 5, 80, kept + 1), 200);
            x = new ForkedInvites(1, 5);
            Checks.register(x, 1, 3, 5, 60, mark);
            Checks.due("5: to remove, mark " + m[0], Checks.register(x, 1, 3, 5, 0, m[0]), m[1]);
            Checks.due("6: is it left", x.bindings(1), m[1] == 200 ? 0 : 1);
        }
    }

    /** 5: "The call name is mark >> 8, the call number mark & 255." */
    private static void marksAtTheEndsOfTheirNumbers() {
        outdated("0 after 0", 0, 0, 500);
        outdated("1 after 0", 0, 1, 200);
        outdated("255 after 254", 254, 255, 200);
        outdated("255 after 255", 255, 255, 500);
        outdated("256 after 255: another name", 255, 256, 200);
        outdated("255 after 256: another name", 256, 255, 200);
        outdated("the greatest after itself", MOST, MOST, 500);
        outdated("the greatest after the one before it", MOST - 1, MOST, 200);
        outdated("the one before the greatest", MOST, MOST - 1, 500);
        outdated("the greatest name's least number", MOST, MOST - 255, 500);
        outdated("the name before the greatest", MOST, MOST - 256, 200);
    }

    /** 5: "(Of a mark below 0, too: with its sign.)" */
    private static void marksBelowZeroKeepTheirSign() {
        outdated("-1 after -1", -1, -1, 500);
        outdated("-2 after -1: number 254 after 255", -1, -2, 500);
        outdated("-1 after -2: number 255 after 254", -2, -1, 200);
        outdated("-256 after -256: number 0", -256, -256, 500);
        outdated("-255 after -256: number 1", -256, -255, 200);
        outdated("-257 after -256: another name", -256, -257, 200);
        outdated("0 after -256: another name", -256, 0, 200);
        outdated("-256 after 0: another name", 0, -256, 200);
        outdated("-1 after 255: another name", 255, -1, 200);
        outdated("0x00FFFFFF after -1: another name", -1, 0x00FFFFFF, 200);
        outdated("0x7FFFFFFF after -1: another name", -1, MOST, 200);
        outdated("the least after itself", LEAST, LEAST, 500);
        outdated("the least and one", LEAST, LEAST + 1, 200);
        outdated("the least after the one after it", LEAST + 1, LEAST, 500);
        outdated("the least after 0: another name", 0, LEAST, 200);
    }

    private static void outdated(String what, int before, int mark, int want) {
        ForkedInvites x = new ForkedInvites(1, 5);
        Checks.due("5: " + what + ", the first", Checks.register(x, 1, 3, 5, 60, before), 200);
        Checks.due("5: " + what, Checks.register(x, 1, 3, 5, 80, mark), want);
    }

    /** 5: "(when contact is -1: one of u's bindings)": whichever of them it is. */
    private static void markOfAllContacts() {
        int[] marks = {256 + 10, 512 + 20, 768 + 30, 1024 + 40};
        for (int i = 0; i < 4; i++) {
            for (int more = -1; more <= 1; more++) {
                ForkedInvites x = new ForkedInvites(1, 5);
                for (int k = 0; k < 4; k++) {
                    Checks.register(x, 1, k, 5, 60, marks[k]);
                }
                int want = more > 0 ? 200 : 500;
                Checks.due("5: all, by binding " + i + ", " + more, Checks.register(x, 1, -1, 5, 0, marks[i] + more), want);
                Checks.due("6: what is left", x.bindings(1), want == 200 ? 0 : 4);
            }
        }
        ForkedInvites x = new ForkedInvites(1, 5);
        Checks.register(x, 1, 0, 5, 60, 256 + 10);
        Checks.register(x, 1, 1, 5, 60, 256 + 12);
        Checks.due("5: newer than one, not than the other", Checks.register(x, 1, -1, 5, 0, 256 + 11), 500);
    }

    private static void markOfAnotherContactOrUser() {
        ForkedInvites x = new ForkedInvites(1, 5);
        Checks.register(x, 1, 3, 5, 60, 256 + 9);
        Checks.due("5: another contact", Checks.register(x, 1, 4, 5, 60, 256 + 9), 200);
        Checks.due("5: another user", Checks.register(x, 2, 3, 5, 60, 256 + 9), 200);
        Checks.due("5: none is bound, one removed", Checks.register(x, 1, 9, 5, 0, 256), 200);
        Checks.due("5: another user's all", Checks.register(x, 0, -1, 5, 0, 256), 200);
        Checks.due("6: they are left", x.bindings(1) + x.bindings(2), 3);
    }

    /** 5: ".. added or changed, with weight, call name and call number as given, which ends at now + ends". */
    private static void aChangeTakesTheNewMark() {
        ForkedInvites x = new ForkedInvites(1, 5);
        x.tick(11);
        Checks.register(x, 1, 3, 5, 60, 256 + 200);
        Checks.register(x, 1, 4, 5, 60, 256 + 200);
        x.tick(1);
        Checks.due("5: another name, a lesser number", Checks.register(x, 1, 4, 6, 70, 512 + 3), 200);
        Checks.due("7: its weight and its time", x.binding(1, 0), 4 + 16 * 70);
        Checks.due("7: the other as it was", x.binding(1, 1), 3 + 16 * 59);
        Checks.due("5: the number as given", Checks.register(x, 1, 4, 6, 70, 512 + 3), 500);
        Checks.due("5: the next number", Checks.register(x, 1, 4, 6, 70, 512 + 4), 200);
        Checks.due("5: the old name is forgotten", Checks.register(x, 1, 4, 6, 70, 256), 200);
    }

    /** 5: "503: contact is not -1, ends is not 0, u has no binding to it and four others." */
    private static void roomForAFifth() {
        ForkedInvites x = Checks.placed(1, 0, 1, 2);
        Checks.due("5: a fourth", Checks.register(x, 1, 3, 5, 60, 0), 200);
        Checks.due("5: a fifth", Checks.register(x, 1, 4, 5, 60, 0), 503);
        Checks.due("5: a fifth for the shortest time", Checks.register(x, 1, 4, 5, 1, 0), 503);
        Checks.due("5: ends 0", Checks.register(x, 1, 4, 5, 0, 0), 200);
        Checks.due("5: one of the four", Checks.register(x, 1, 3, 5, 70, 1), 200);
        Checks.due("6: four", x.bindings(1), 4);
        Checks.due("5: another user has room", Checks.register(x, 2, 4, 5, 60, 0), 200);
        Checks.due("5: one is removed", Checks.register(x, 1, 0, 5, 0, 257), 200);
        Checks.due("5: now there is room", Checks.register(x, 1, 4, 5, 60, 0), 200);
        Checks.due("5: all are removed", Checks.register(x, 1, -1, 5, 0, 1024), 200);
        for (int contact = 10; contact < 15; contact++) {
            Checks.due("5: room for four", Checks.register(x, 1, contact, 5, 60, 0), contact < 14 ? 200 : 503);
        }
    }

    /** 5: "contact -1: all of u's bindings are removed": of none, one or four. */
    private static void removeAll() {
        for (int count = 0; count <= 4; count++) {
            ForkedInvites x = new ForkedInvites(1, 5);
            for (int k = 0; k < count; k++) {
                Checks.register(x, 1, k, k, 60, 256);
            }
            Checks.register(x, 2, 0, 5, 60, 256);
            Checks.due("5: all of " + count, Checks.register(x, 1, -1, 5, 0, 512), 200);
            Checks.due("6: none is left", x.bindings(1), 0);
            Checks.due("7: none is left", x.binding(1, 0), NONE);
            Checks.due("6: another's are", x.bindings(2), 1);
        }
    }

    /** 5: "ends 0: the one to the contact is removed, if there is one": each of four, and none of them. */
    private static void removeOne() {
        for (int contact = 0; contact < 5; contact++) {
            ForkedInvites x = Checks.placed(1, 0, 1, 2, 3);
            Checks.due("5: without " + contact, Checks.register(x, 1, contact, 5, 0, 512), 200);
            int left = 0;
            for (int other = 0; other < 4; other++) {
                if (other != contact) {
                    Checks.due("7: without " + contact, x.binding(1, left), other + 16 * 5000);
                    left++;
                }
            }
            Checks.due("6: without " + contact, x.bindings(1), left);
            Checks.due("7: no more", x.binding(1, left), NONE);
        }
    }

    /** 6: "0 when u is not 0 .. 3". */
    private static void bindingsOfNobody() {
        ForkedInvites x = everywhere();
        for (int u : new int[] {LEAST, -1, 4, 5, MOST}) {
            Checks.due("6: bindings(" + u + ")", x.bindings(u), 0);
            Checks.due("7: binding(" + u + ", 0)", x.binding(u, 0), NONE);
        }
        Checks.due("6: bindings(0)", x.bindings(0), 1);
        Checks.due("6: bindings(3)", x.bindings(3), 1);
        Checks.due("7: binding(0, 0)", x.binding(0, 0), 16 * 60);
        Checks.due("7: binding(3, 0)", x.binding(3, 0), 3 + 16 * 60);
    }

    private static ForkedInvites everywhere() {
        ForkedInvites x = new ForkedInvites(1, 5);
        for (int u = 0; u < 4; u++) {
            Checks.register(x, u, u, 5, 60, 0);
        }
        return x;
    }

    /** 7: "NONE when .. there is none": of none, one or four. */
    private static void bindingOfNoIndex() {
        for (int count = 0; count <= 4; count++) {
            ForkedInvites x = new ForkedInvites(1, 5);
            for (int k = 0; k < count; k++) {
                Checks.register(x, 1, k, 5, 60, 0);
            }
            for (int k : new int[] {LEAST, -1, 0, 1, 2, 3, 4, 5, MOST}) {
                boolean there = k >= 0 && k < count;
                Checks.due("7: binding(1, " + k + ") of " + count, x.binding(1, k), there ? k + 16 * 60 : NONE);
            }
        }
    }

    /** 7: "The contact of user u's binding k (from 0) plus 16 times the ticks until it ends". */
    private static void bindingTellsTheTicks() {
        ForkedInvites x = new ForkedInvites(1, 5);
        Checks.register(x, 1, 15, 0, 3, 0);
        for (int left = 3; left > 0; left--) {
            Checks.due("7: " + left + " ticks left", x.binding(1, 0), 15 + 16 * left);
            x.tick(1);
        }
        Checks.due("7: none left", x.binding(1, 0), NONE);
        Checks.register(x, 1, 0, 0, 5000, 0);
        Checks.due("7: the most", x.binding(1, 0), 16 * 5000);
    }
}
