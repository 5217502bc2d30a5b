/** The BEST result that the server answers when every branch has failed. */
public final class BestAnswerTest {
    public static void main(String[] args) {
        best("one", 486, 486);
        best("the least hundred", 302, 486, 302, 500);
        best("the least hundred, not the least code first", 499, 500, 499, 503);
        best("the first of a hundred", 499, 499, 400, 404);
        best("the first of 300", 399, 399, 300);
        best("600 before all", 699, 300, 401, 699);
        best("the first of 600", 699, 699, 600);
        best("401 before 400", 401, 400, 404, 401);
        best("407", 407, 486, 407, 480);
        best("415", 415, 486, 415, 480);
        best("420", 420, 486, 420, 480);
        best("484", 484, 486, 484, 480);
        best("the first of the five", 484, 400, 484, 401, 407);
        best("none of the five", 402, 402, 406, 483);
        best("300 before 401", 305, 401, 305);
        best("503 is 500", 500, 503);
        best("503 came first", 500, 503, 502);
        best("502 came first", 502, 502, 503);
        best("503 is not the best", 404, 503, 404);
        best("599", 599, 599, 500);
        inTheOrderOfTime();
        timersCountToo();
        notBeforeEveryBranch();
        Checks.end();
    }

    private static int[] places(int count) {
        int[] contacts = new int[count];
        for (int i = 0; i < count; i++) {
            contacts[i] = i;
        }
        return contacts;
    }

    private static void best(String what, int want, int... codes) {
        ForkedInvites x = Checks.calling(1, places(codes.length));
        // None has rung, so a code of 600 sends no CANCELs: only the choice is asked for here.
        int last = codes.length - 1;
        for (int i = 0; i < last; i++) {
            x.reply(0, i, codes[i]);
        }
        Checks.due(what + ": not yet", x.server(0), 1 + 8 * 100);
        x.reply(0, last, codes[last]);
        Checks.due(what, x.server(0), 2 + 8 * want);
        Checks.latest(what, x, Checks.message(0, 0, Checks.TO_CALLER, want));
        Checks.due(what + ": the result itself", x.result(0, last), codes[last]);
    }

    private static void inTheOrderOfTime() {
        ForkedInvites x = Checks.calling(1, places(3));
        x.reply(0, 2, 486);
        x.reply(0, 0, 404);
        x.reply(0, 1, 480);
        Checks.due("first in time, not in place", x.server(0), 2 + 8 * 486);
        x = Checks.calling(1, places(3));
        x.reply(0, 1, 603);
        x.reply(0, 2, 404);
        x.reply(0, 0, 600);
        Checks.due("the first of 600 in time", x.server(0), 2 + 8 * 603);
    }

    private static void timersCountToo() {
        ForkedInvites x = Checks.calling(1, places(2));
        x.tick(10);
        x.reply(0, 0, 100);
        x.tick(54);
        Checks.due("408 from B", x.result(0, 1), 408);
        x.reply(0, 0, 404);
        Checks.due("408 came first", x.server(0), 2 + 8 * 408);
        x = Checks.calling(1, places(2));
        x.reply(0, 0, 500);
        x.tick(64);
        Checks.due("408 is less than 500", x.server(0), 2 + 8 * 408);
    }

    private static void notBeforeEveryBranch() {
        ForkedInvites x = Checks.calling(1, places(4));
        x.reply(0, 0, 404);
        x.reply(0, 1, 404);
        Checks.due("no answer yet, only an ACK", x.reply(0, 3, 404), 1);
        Checks.due("the server waits", x.server(0), 1 + 8 * 100);
        Checks.due("the answer", x.reply(0, 2, 404), 2);
    }
}
