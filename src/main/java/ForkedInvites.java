/**
 * A registrar that keeps where users can be reached, after a digest challenge, and a stateful proxy
 * that forks a call to all places of a user, over links on which messages may be lost.
 */
public final class ForkedInvites {
    public static final int NONE = -1;
    public static final int INVITE = 1;
    public static final int CANCEL = 2;
    public static final int ACK = 3;

    private static final int USERS = 4;
    private static final int CALLS = 4;
    private static final int BINDINGS_MOST = 4;
    private static final int LIVE_MOST = 12;
    private static final int TICKS_MOST = 2000;
    private static final int ALL_CONTACTS = -1;
    private static final int CONTACT_LAST = 15;
    private static final int WEIGHT_MOST = 10;
    private static final int ENDS_MOST = 5000;

    private final Clock clock;
    private final MessageLog log;
    private final User[] users;
    private final Call[] calls;
    private int nonceState;

    public ForkedInvites(int t1, int seed) {
        clock = new Clock(Math.max(1, Math.min(100, t1)));
        log = new MessageLog(clock);
        users = new User[USERS];
        for (int u = 0; u < USERS; u++) {
            users[u] = new User(clock);
        }
        calls = new Call[CALLS];
        for (int call = 0; call < CALLS; call++) {
            calls[call] = new Call(clock, log, call);
        }
        nonceState = seed;
    }

    public boolean password(int u, int s) {
        User user = userAt(u);
        if (user == null) {
            return false;
        }
        user.secret = s;
        return true;
    }

    public int challenge(int u) {
        User user = userAt(u);
        if (user == null) {
            return 0;
        }
        nonceState = nonceState * 69069 + 1;
        user.takeNonce(nonceState);
        return nonceState;
    }

    public boolean login(int u, int c, int answer) {
        User user = userAt(u);
        return user != null && user.admit(c, answer);
    }

    public int register(int u, int contact, int weight, int ends, int mark) {
        User user = userAt(u);
        if (user == null || !isRegistration(contact, weight, ends)) {
            return 400;
        }
        if (!user.admitted) {
            return 401;
        }
        user.admitted = false;
        user.dropEnded();
        if (user.isOutdated(contact, mark)) {
            return 500;
        }
        if (contact == ALL_CONTACTS) {
            user.removeAll();
            return 200;
        }
        if (ends == 0) {
            user.removeTo(contact);
            return 200;
        }
        return user.bind(contact, weight, ends, mark) ? 200 : 503;
    }

    public int bindings(int u) {
        User user = userAt(u);
        if (user == null) {
            return 0;
        }
        user.dropEnded();
        return user.bindingCount;
    }

    public int binding(int u, int k) {
        User user = userAt(u);
        if (user == null) {
            return NONE;
        }
        user.dropEnded();
        Binding found = user.ranked(k);
        return found == null ? NONE : found.contact + 16 * (found.endsAt - clock.now);
    }

    public int invite(int call, int user, int hops, int via) {
        if (call < 0 || call >= CALLS) {
            return NONE;
        }
        int before = log.count;
        Call invited = calls[call];
        if (invited.isInUse()) {
            invited.server.tellLatestAgain();
        } else {
            open(invited, userAt(user), refusal(user, hops, via));
        }
        return log.count - before;
    }

    public int reply(int call, int branch, int code) {
        Branch found = branchAt(call, branch);
        if (found == null || code < 100 || code > 699) {
            return NONE;
        }
        int before = log.count;
        calls[call].codeArrives(found, code);
        return log.count - before;
    }

    public boolean cancelled(int call, int branch) {
        Branch found = branchAt(call, branch);
        if (found == null || !found.timerE.isOn()) {
            return false;
        }
        found.timerE.stop();
        return true;
    }

    public int cancel(int call) {
        Call found = callInUse(call);
        if (found == null) {
            return NONE;
        }
        int before = log.count;
        if (found.server.state == Server.PROCEEDING) {
            found.cancelOpenBranches();
        }
        return log.count - before;
    }

    public boolean ack(int call) {
        Call found = callInUse(call);
        if (found == null || found.server.state != Server.COMPLETED) {
            return false;
        }
        found.server.confirm();
        return true;
    }

    public int tick(int n) {
        if (n < 0 || n > TICKS_MOST) {
            return NONE;
        }
        int before = log.count;
        // Most ticks have nothing due; knowing the next one that has spares asking every timer in each.
        int next = earliestDue();
        for (int i = 0; i < n; i++) {
            clock.now++;
            if (clock.now == next) {
                runDueTimers();
                next = earliestDue();
            }
        }
        return log.count - before;
    }

    public int now() {
        return clock.now;
    }

    public int server(int call) {
        Call found = callInUse(call);
        return found == null ? 0 : found.server.state + 8 * found.server.latestCode;
    }

    public int branch(int call, int branch) {
        Branch found = branchAt(call, branch);
        if (found == null) {
            return 0;
        }
        return found.state + (found.wantedToEnd ? 8 : 0) + 16 * found.contact;
    }

    public int result(int call, int branch) {
        Branch found = branchAt(call, branch);
        return found == null ? 0 : found.outcome;
    }

    public int live() {
        int count = 0;
        for (int call = 0; call < CALLS; call++) {
            count += calls[call].liveCount();
        }
        return count;
    }

    public int sent() {
        return log.count;
    }

    public long message(int k) {
        return log.latest(k);
    }

    private User userAt(int u) {
        return u < 0 || u >= USERS ? null : users[u];
    }

    private Call callInUse(int call) {
        if (call < 0 || call >= CALLS || !calls[call].isInUse()) {
            return null;
        }
        return calls[call];
    }

    private Branch branchAt(int call, int branch) {
        Call found = callInUse(call);
        if (found == null || branch < 0 || branch >= found.branchCount) {
            return null;
        }
        return found.branches[branch];
    }

    private static boolean isRegistration(int contact, int weight, int ends) {
        if (contact < ALL_CONTACTS || contact > CONTACT_LAST) {
            return false;
        }
        if (weight < 0 || weight > WEIGHT_MOST || ends < 0 || ends > ENDS_MOST) {
            return false;
        }
        return contact != ALL_CONTACTS || ends == 0;
    }

    /** The code with which a new call is refused, or 0 when it can go to the user's places. */
    private int refusal(int user, int hops, int via) {
        if (hops < 1) {
            return 483;
        }
        User wanted = userAt(user);
        if (wanted == null) {
            return 404;
        }
        if ((via >> user & 1) != 0) {
            return 482;
        }
        wanted.dropEnded();
        return wanted.bindingCount == 0 ? 480 : 0;
    }

    private void open(Call call, User wanted, int refusal) {
        boolean forks = refusal == 0 && wanted != null;
        int needed = forks ? 1 + wanted.bindingCount : 1;
        if (live() + needed > LIVE_MOST) {
            log.add(call.number, MessageLog.TO_CALLER, 503);
        } else if (forks) {
            call.fork(wanted);
        } else {
            call.refuse(refusal);
        }
    }

    private int earliestDue() {
        int earliest = Timer.NEVER;
        for (int call = 0; call < CALLS; call++) {
            earliest = Math.min(earliest, calls[call].earliestDue());
        }
        return earliest;
    }

    private void runDueTimers() {
        for (int call = 0; call < CALLS; call++) {
            if (calls[call].isInUse()) {
                calls[call].runTimers();
            }
        }
    }

    private static final class Clock {
        final int t1;
        int now;

        Clock(int t1) {
            this.t1 = t1;
        }
    }

    private static final class Timer {
        // Greater than every tick that can come, so that the earliest of some timers is the least dueAt.
        static final int NEVER = 0x7fffffff;

        private final Clock clock;
        private int span;
        int dueAt = NEVER;

        Timer(Clock clock) {
            this.clock = clock;
        }

        void set(int ticks) {
            span = ticks;
            dueAt = clock.now + ticks;
        }

        void setToTwice() {
            set(2 * span);
        }

        void setToTwiceButAtMost(int most) {
            set(Math.min(2 * span, most));
        }

        void stop() {
            dueAt = NEVER;
        }

        boolean isOn() {
            return dueAt != NEVER;
        }

        boolean isDue() {
            return dueAt == clock.now;
        }
    }

    /** Counts all messages but keeps only those that can still be asked for. */
    private static final class MessageLog {
        static final int TO_CALLER = 7;
        // A power of two, so that a mask finds the place of a message.
        private static final int KEPT = 64;

        private final Clock clock;
        private final long[] kept = new long[KEPT];
        int count;

        MessageLog(Clock clock) {
            this.clock = clock;
        }

        void add(int call, int branch, int what) {
            long place = (clock.now * 4L + call) * 8L + branch;
            kept[count & (KEPT - 1)] = place * 1024L + what;
            count++;
        }

        long latest(int k) {
            if (k < 0 || k >= KEPT || k >= count) {
                return NONE;
            }
            return kept[(count - 1 - k) & (KEPT - 1)];
        }
    }

    private static final class Binding {
        int contact;
        int weight;
        int endsAt;
        int callName;
        int callNumber;
    }

    private static final class User {
        private final Clock clock;
        int secret;
        boolean admitted;
        private boolean hasNonce;
        private int nonce;
        private int nonceMadeAt;
        private int highestCount;
        // In the order in which they were added, so that a changed weight needs no sorting;
        // behind bindingCount stand those that are free to be used again.
        private final Binding[] added = new Binding[BINDINGS_MOST];
        int bindingCount;

        User(Clock clock) {
            this.clock = clock;
            for (int i = 0; i < BINDINGS_MOST; i++) {
                added[i] = new Binding();
            }
        }

        void takeNonce(int made) {
            hasNonce = true;
            nonce = made;
            nonceMadeAt = clock.now;
            highestCount = 0;
        }

        boolean admit(int count, int answer) {
            boolean good = hasNonce && clock.now - nonceMadeAt < 100 * clock.t1;
            if (!good || count <= highestCount || answer != digest(secret, nonce, count)) {
                return false;
            }
            highestCount = count;
            admitted = true;
            return true;
        }

        private static int digest(int secret, int nonce, int count) {
            int x = secret ^ nonce;
            x = (x ^ x >>> 15) * -1640531527;
            x = x + count * 2654435;
            return x ^ x >>> 13;
        }

        void dropEnded() {
            for (int i = bindingCount - 1; i >= 0; i--) {
                if (clock.now >= added[i].endsAt) {
                    removeAt(i);
                }
            }
        }

        /** Whether the mark is no newer than that of a binding which the registration touches. */
        boolean isOutdated(int contact, int mark) {
            for (int i = 0; i < bindingCount; i++) {
                Binding other = added[i];
                boolean touched = contact == ALL_CONTACTS || contact == other.contact;
                if (touched && other.callName == mark >> 8 && other.callNumber >= (mark & 255)) {
                    return true;
                }
            }
            return false;
        }

        void removeAll() {
            bindingCount = 0;
        }

        void removeTo(int contact) {
            for (int i = bindingCount - 1; i >= 0; i--) {
                if (added[i].contact == contact) {
                    removeAt(i);
                }
            }
        }

        private void removeAt(int index) {
            Binding gone = added[index];
            bindingCount--;
            for (int i = index; i < bindingCount; i++) {
                added[i] = added[i + 1];
            }
            added[bindingCount] = gone;
        }

        /** False when there is no room for one more binding. */
        boolean bind(int contact, int weight, int ends, int mark) {
            Binding bound = boundOrFree(contact);
            if (bound == null) {
                return false;
            }
            bound.contact = contact;
            bound.weight = weight;
            bound.endsAt = clock.now + ends;
            bound.callName = mark >> 8;
            bound.callNumber = mark & 255;
            return true;
        }

        private Binding boundOrFree(int contact) {
            for (int i = 0; i < bindingCount; i++) {
                if (added[i].contact == contact) {
                    return added[i];
                }
            }
            if (bindingCount >= BINDINGS_MOST) {
                return null;
            }
            bindingCount++;
            return added[bindingCount - 1];
        }

        /** The binding that has k others before it, or null. */
        Binding ranked(int k) {
            for (int i = 0; i < bindingCount; i++) {
                if (rankOf(i) == k) {
                    return added[i];
                }
            }
            return null;
        }

        private int rankOf(int index) {
            int weight = added[index].weight;
            int before = 0;
            for (int i = 0; i < bindingCount; i++) {
                int other = added[i].weight;
                if (other > weight || other == weight && i < index) {
                    before++;
                }
            }
            return before;
        }
    }

    /** The side of a call that speaks with the caller. */
    private static final class Server {
        static final int PROCEEDING = 1;
        static final int COMPLETED = 2;
        static final int CONFIRMED = 3;
        static final int ANSWERED = 4;
        static final int ENDED = 5;

        private final Clock clock;
        private final MessageLog log;
        private final int call;
        private final Timer timerG;
        private final Timer timerH;
        private final Timer timerI;
        private final Timer timerL;
        int state = ENDED;
        int latestCode;

        Server(Clock clock, MessageLog log, int call) {
            this.clock = clock;
            this.log = log;
            this.call = call;
            timerG = new Timer(clock);
            timerH = new Timer(clock);
            timerI = new Timer(clock);
            timerL = new Timer(clock);
        }

        void proceed() {
            moveTo(PROCEEDING);
            tell(100);
        }

        /** Tells the caller a code that is no success. */
        void tell(int code) {
            latestCode = code;
            log.add(call, MessageLog.TO_CALLER, code);
        }

        /** A success is not kept: it is never told again by the server, nor shown as its code. */
        void tellSuccess(int code) {
            log.add(call, MessageLog.TO_CALLER, code);
        }

        void tellLatestAgain() {
            if (state == PROCEEDING || state == COMPLETED) {
                tell(latestCode);
            }
        }

        void answerSuccess() {
            moveTo(ANSWERED);
            timerL.set(64 * clock.t1);
        }

        void answerFailure(int code) {
            tell(code);
            moveTo(COMPLETED);
            timerG.set(clock.t1);
            timerH.set(64 * clock.t1);
        }

        void confirm() {
            moveTo(CONFIRMED);
            timerI.set(8 * clock.t1);
        }

        private void moveTo(int next) {
            state = next;
            if (state != COMPLETED) {
                timerG.stop();
                timerH.stop();
            }
            if (state == ENDED) {
                timerI.stop();
                timerL.stop();
            }
        }

        void runTimers() {
            if (timerG.isDue()) {
                tell(latestCode);
                timerG.setToTwiceButAtMost(8 * clock.t1);
            }
            if (timerH.isDue() || timerI.isDue() || timerL.isDue()) {
                moveTo(ENDED);
            }
        }

        int earliestDue() {
            int earliest = Math.min(timerG.dueAt, timerH.dueAt);
            return Math.min(earliest, Math.min(timerI.dueAt, timerL.dueAt));
        }
    }

    /** The side of a call that speaks with one contact. */
    private static final class Branch {
        static final int CALLING = 1;
        static final int PROCEEDING = 2;
        static final int COMPLETED = 3;
        static final int ENDED = 4;
        private static final int TIMED_OUT = 408;

        private final Clock clock;
        private final MessageLog log;
        private final int call;
        private final int number;
        private final Timer timerA;
        private final Timer timerB;
        private final Timer timerC;
        private final Timer timerD;
        final Timer timerE;
        private final Timer timerF;
        int contact;
        int state = ENDED;
        boolean wantedToEnd;
        private boolean cancelSent;
        int outcome;
        int outcomeOrder;

        Branch(Clock clock, MessageLog log, int call, int number) {
            this.clock = clock;
            this.log = log;
            this.call = call;
            this.number = number;
            timerA = new Timer(clock);
            timerB = new Timer(clock);
            timerC = new Timer(clock);
            timerD = new Timer(clock);
            timerE = new Timer(clock);
            timerF = new Timer(clock);
        }

        void begin(int to) {
            contact = to;
            wantedToEnd = false;
            cancelSent = false;
            outcome = 0;
            moveTo(CALLING);
            log.add(call, number, INVITE);
            timerA.set(clock.t1);
            timerB.set(64 * clock.t1);
            timerC.set(200 * clock.t1);
        }

        boolean isOpen() {
            return state == CALLING || state == PROCEEDING;
        }

        void proceed() {
            moveTo(PROCEEDING);
        }

        /** A callee that shows life gets its full time again, unless it was told to stop. */
        void waitAnew() {
            if (!cancelSent) {
                timerC.set(200 * clock.t1);
            }
        }

        void wantEnd() {
            wantedToEnd = true;
            if (state != PROCEEDING || cancelSent) {
                return;
            }
            cancelSent = true;
            log.add(call, number, CANCEL);
            timerC.stop();
            timerE.set(clock.t1);
            timerF.set(64 * clock.t1);
        }

        void succeed(int code) {
            outcome = code;
            moveTo(ENDED);
        }

        void fail(int code) {
            outcome = code;
            moveTo(COMPLETED);
            acknowledge();
            timerD.set(64 * clock.t1);
        }

        void acknowledge() {
            log.add(call, number, ACK);
        }

        private void timeOut() {
            outcome = TIMED_OUT;
            moveTo(ENDED);
        }

        private void moveTo(int next) {
            state = next;
            if (state != CALLING) {
                timerA.stop();
                timerB.stop();
            }
            if (!isOpen()) {
                timerC.stop();
                timerE.stop();
                timerF.stop();
            }
            if (state == ENDED) {
                timerD.stop();
            }
        }

        /** True when the branch timed out, and so got its result. */
        boolean runTimers() {
            boolean wasOpen = isOpen();
            if (timerA.isDue()) {
                log.add(call, number, INVITE);
                timerA.setToTwice();
            }
            if (timerB.isDue()) {
                timeOut();
            }
            if (timerC.isDue()) {
                wantEnd();
            }
            if (timerD.isDue()) {
                moveTo(ENDED);
            }
            if (timerE.isDue()) {
                log.add(call, number, CANCEL);
                timerE.setToTwiceButAtMost(8 * clock.t1);
            }
            if (timerF.isDue()) {
                timeOut();
            }
            return wasOpen && !isOpen();
        }

        int earliestDue() {
            int earliest = Math.min(timerA.dueAt, Math.min(timerB.dueAt, timerC.dueAt));
            return Math.min(earliest, Math.min(timerD.dueAt, Math.min(timerE.dueAt, timerF.dueAt)));
        }
    }

    private static final class Call {
        final int number;
        final Server server;
        // There are always as many as a user may have bindings; the first branchCount are the call's.
        final Branch[] branches = new Branch[BINDINGS_MOST];
        int branchCount;
        private int outcomeCount;

        Call(Clock clock, MessageLog log, int number) {
            this.number = number;
            server = new Server(clock, log, number);
            for (int i = 0; i < BINDINGS_MOST; i++) {
                branches[i] = new Branch(clock, log, number, i);
            }
        }

        boolean isInUse() {
            return liveCount() > 0;
        }

        int liveCount() {
            int count = server.state == Server.ENDED ? 0 : 1;
            for (int i = 0; i < branchCount; i++) {
                if (branches[i].state != Branch.ENDED) {
                    count++;
                }
            }
            return count;
        }

        void refuse(int code) {
            branchCount = 0;
            server.answerFailure(code);
        }

        void fork(User wanted) {
            branchCount = 0;
            outcomeCount = 0;
            server.proceed();
            for (int i = 0; i < BINDINGS_MOST; i++) {
                Binding place = wanted.ranked(i);
                if (place != null) {
                    branches[i].begin(place.contact);
                    branchCount++;
                }
            }
        }

        void cancelOpenBranches() {
            for (int i = 0; i < branchCount; i++) {
                if (branches[i].isOpen()) {
                    branches[i].wantEnd();
                }
            }
        }

        void codeArrives(Branch branch, int code) {
            if (code < 200) {
                provisionalArrives(branch, code);
            } else if (code < 300) {
                successArrives(branch, code);
            } else {
                failureArrives(branch, code);
            }
        }

        private void provisionalArrives(Branch branch, int code) {
            if (!branch.isOpen()) {
                return;
            }
            branch.proceed();
            if (code != 100) {
                branch.waitAnew();
                if (server.state == Server.PROCEEDING) {
                    server.tell(code);
                }
            }
            if (branch.wantedToEnd) {
                branch.wantEnd();
            }
        }

        private void successArrives(Branch branch, int code) {
            if (branch.isOpen()) {
                branch.succeed(code);
                countOutcome(branch);
            }
            server.tellSuccess(code);
            if (server.state == Server.PROCEEDING) {
                server.answerSuccess();
                cancelOpenBranches();
            }
        }

        private void failureArrives(Branch branch, int code) {
            if (branch.state == Branch.COMPLETED) {
                branch.acknowledge();
            } else if (branch.isOpen()) {
                branch.fail(code);
                countOutcome(branch);
                if (code >= 600) {
                    cancelOpenBranches();
                }
                answerIfAllFailed();
            }
        }

        private void countOutcome(Branch branch) {
            outcomeCount++;
            branch.outcomeOrder = outcomeCount;
        }

        private void answerIfAllFailed() {
            if (server.state == Server.PROCEEDING && outcomeCount == branchCount) {
                int best = bestOutcome();
                server.answerFailure(best == 503 ? 500 : best);
            }
        }

        private int bestOutcome() {
            Branch best = branches[0];
            for (int i = 1; i < branchCount; i++) {
                if (isBetter(branches[i], best)) {
                    best = branches[i];
                }
            }
            return best.outcome;
        }

        private static boolean isBetter(Branch one, Branch other) {
            int difference = gradeOf(one.outcome) - gradeOf(other.outcome);
            return difference < 0 || difference == 0 && one.outcomeOrder < other.outcomeOrder;
        }

        /** The lower, the better; two for each hundred, so that some of 400 .. 499 can stand before the rest. */
        private static int gradeOf(int code) {
            if (code >= 600) {
                return 0;
            }
            switch (code) {
                case 401:
                case 407:
                case 415:
                case 420:
                case 484:
                    return 2 * 4;
                default:
                    return 2 * (code / 100) + 1;
            }
        }

        void runTimers() {
            server.runTimers();
            for (int i = 0; i < branchCount; i++) {
                if (branches[i].runTimers()) {
                    countOutcome(branches[i]);
                    answerIfAllFailed();
                }
            }
        }

        int earliestDue() {
            int earliest = server.earliestDue();
            for (int i = 0; i < branchCount; i++) {
                earliest = Math.min(earliest, branches[i].earliestDue());
            }
            return earliest;
        }
    }
}
