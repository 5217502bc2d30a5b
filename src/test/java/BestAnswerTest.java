/** The BEST result that the server answers when every branch has failed. */
public final class BestAnswerTest {
    public static void main(String[] args) {
        best("one", 486, 486);
        best("the least hundred", 302, 486, 302, 500);
        best("the least hundred, not the least code first", 499, 500, 499, 503);
        best("the first of a hundred", 499, 499, 400, 404);
        best("the first of 300", 399, 399, 300);
        best("600 before all", 699, 300, 401, 699);
        best("the first of 600", 699, 699, 600);
        best("401 before 400", 401, 400, 404, 401);
        best("407", 407, 486, 407, 480);
        best("415", 415, 486, 415, 480);
        best("420", 420, 486, 420, 480);
        best("484", 484, 486, 484, 480);
        best("the first of the five", 484, 400, 484, 401, 407);
        best("none of the five", 402, 402, 406, 483);
        best("300 before 401", 305, 401, 305);
        best("503 is 500", 500, 503);
        best("503 came first", 500, 503, 502);
        best("502 came first", 502, 502, 503);
        best("503 is not the best", 404, 503, 404);
        best("599", 599, 599, 500);
        sixHundredAndTheCodeBeforeIt();
        bordersOfTheHundreds();
        theFiveAndTheirNeighbours();
        theFiveCountAmongFourHundredsAlone();
        fiveHundredAndThreeAndItsNeighbours();
        upToFourResults();
        inTheOrderOfTime();
        timersCountToo();
        notBeforeEveryBranch();
        Checks.end();
    }

    private static int[] places(int count) {
        int[] contacts = new int[count];
        for (int i = 0; i < count; i++) {
            contacts[i] = i;
        }
        return contacts;
    }

    private static void best(String what, int want, int... codes) {
        ForkedInvites x = Checks.calling(1, places(codes.length));
        // None has rung, so a code of 600 sends no CANCELs: only the choice is asked for here.
        int last = codes.length - 1;
        for (int i = 0; i < last; i++) {
            x.reply(0, i, codes[i]);
        }
        Checks.due(what + ": not yet", x.server(0), 1 + 8 * 100);
        x.reply(0, last, codes[last]);
        Checks.due(what, x.server(0), 2 + 8 * want);
        Checks.latest(what, x, Checks.message(0, 0, Checks.TO_CALLER, want));
        Checks.due(what + ": the result itself", x.result(0, last), codes[last]);
    }

    /** "if one is 600 or more, the one of these that came first". */
    private static void sixHundredAndTheCodeBeforeIt() {
        best("600 after 599", 600, 599, 600);
        best("600 before 599", 600, 600, 599);
        best("600 after 300", 600, 300, 600);
        best("599 after 300", 300, 300, 599);
        best("699 after 401", 699, 401, 699);
        best("699, then 600", 699, 699, 600);
        best("600, then 699", 600, 600, 699);
        best("601, then 600, behind another", 601, 302, 601, 600);
    }

    /** "else one of the least code / 100". */
    private static void bordersOfTheHundreds() {
        best("400, then 399", 399, 400, 399);
        best("399, then 400", 399, 399, 400);
        best("500, then 499", 499, 500, 499);
        best("499, then 500", 499, 499, 500);
        best("399, then 300", 399, 399, 300);
        best("300, then 399", 300, 300, 399);
        best("599, then 500", 599, 599, 500);
        best("500, then 599", 500, 500, 599);
        best("499, then 400", 499, 499, 400);
    }

    /** "if that is 4, one of 401, 407, 415, 420, 484 if there is one of these". */
    private static void theFiveAndTheirNeighbours() {
        for (int code : new int[] {401, 407, 415, 420, 484}) {
            best(code + " after the one below it", code, code - 1, code);
            best(code + " after the one above it", code, code + 1, code);
            best("the neighbours of " + code, code - 1, code - 1, code + 1);
            best("the neighbours of " + code + " turned round", code + 1, code + 1, code - 1);
            best(code + " after the first and the last", code, 400, 499, code);
            for (int other : new int[] {401, 407, 415, 420, 484}) {
                best(code + ", then " + other, code, code, other);
            }
        }
    }

    /** "if that is 4": those with the same end in other hundreds are not meant. */
    private static void theFiveCountAmongFourHundredsAlone() {
        for (int more : new int[] {1, 7, 15, 20, 84}) {
            best("300, then " + (300 + more), 300, 300, 300 + more);
            best("500, then " + (500 + more), 500, 500, 500 + more);
            best("600, then " + (600 + more), 600, 600, 600 + more);
            best((400 + more) + ", then 399", 399, 400 + more, 399);
            best((400 + more) + ", then 600", 600, 400 + more, 600);
        }
    }

    /** "If that is 503, 500 is answered." */
    private static void fiveHundredAndThreeAndItsNeighbours() {
        best("502", 502, 502);
        best("503", 500, 503);
        best("504", 504, 504);
        best("403", 403, 403);
        best("603", 603, 603);
        best("303", 303, 303);
        best("504, then 503", 504, 504, 503);
        best("503, then 504", 500, 503, 504);
        best("503, then 404", 404, 503, 404);
    }

    /** "of those that are left, the one that came first": whichever branch it is. */
    private static void upToFourResults() {
        int[] codes = {480, 481, 482, 483};
        for (int first = 0; first < 4; first++) {
            ForkedInvites x = Checks.calling(1, places(4));
            for (int i = 0; i < 4; i++) {
                int k = (first + 3 * i) % 4;
                x.reply(0, k, codes[k]);
            }
            Checks.due("branch " + first + " came first", x.server(0), 2 + 8 * codes[first]);
        }
    }

    private static void inTheOrderOfTime() {
        ForkedInvites x = Checks.calling(1, places(3));
        x.reply(0, 2, 486);
        x.reply(0, 0, 404);
        x.reply(0, 1, 480);
        Checks.due("first in time, not in place", x.server(0), 2 + 8 * 486);
        x = Checks.calling(1, places(3));
        x.reply(0, 1, 603);
        x.reply(0, 2, 404);
        x.reply(0, 0, 600);
        Checks.due("the first of 600 in time", x.server(0), 2 + 8 * 603);
    }

    private static void timersCountToo() {
        ForkedInvites x = Checks.calling(1, places(2));
        x.tick(10);
        x.reply(0, 0, 100);
        x.tick(54);
        Checks.due("408 from B", x.result(0, 1), 408);
        x.reply(0, 0, 404);
        Checks.due("408 came first", x.server(0), 2 + 8 * 408);
        x = Checks.calling(1, places(2));
        x.reply(0, 0, 500);
        x.tick(64);
        Checks.due("408 is less than 500", x.server(0), 2 + 8 * 408);
    }

    private static void notBeforeEveryBranch() {
        ForkedInvites x = Checks.calling(1, places(4));
        x.reply(0, 0, 404);
        x.reply(0, 1, 404);
        Checks.due("no answer yet, only an ACK", x.reply(0, 3, 404), 1);
        Checks.due("the server waits", x.server(0), 1 + 8 * 100);
        Checks.due("the answer", x.reply(0, 2, 404), 2);
    }
}
