import java.util.Arrays;

/** A model of a Unix process table, as ../shared/DOC.md tells it. */
public final class Signalpost {
    public static final int NONE = -1;
    public static final int HUP = 0, INT = 1, KILL = 2, TERM = 3, CHILD = 4, STOP = 5, TSTP = 6, CONT = 7, USER = 8;
    public static final int DEFAULT = 0, IGNORE = 1, CATCH = 2;
    public static final int RUNNING = 0, WAITING = 1, STOPPED = 2, ZOMBIE = 3;
    public static final int EXITED = 0, KILLED = 1, STOPPED_BY = 2, INTERRUPTED = 3, NO_CHILD = 4;

    private static final int INIT = 1;
    private static final int LAST_PID = 40;
    private static final int SIGNALS = 9;
    private static final int UNBLOCKABLE = 1 << KILL | 1 << STOP;
    private static final int LAST_CODE = 255;

    // An event is told by one number: the numbers 0 to 8 are signals, and these two follow them.
    private static final int END_OF_CHILD = 9;
    private static final int STOP_OF_CHILD = 10;

    // Far above what a call can append: 39 processes terminate once each, and each appends some 160 events at most.
    private static final int EVENT_LIMIT = 1 << 16;

    // The process with a pid stands at that index; null, if there is none. Index 0 is never used.
    private final Proc[] table = new Proc[LAST_PID + 1];
    private final EventQueue events = new EventQueue();
    private int terminalHolder = NONE;
    private int foregroundGroup = NONE;

    public Signalpost() {
        table[INIT] = new Proc(INIT);
    }

    // ---- system calls

    public int fork(int pid) throws IndexOutOfBoundsException, IllegalStateException {
        Proc p = find(pid);
        int free = lowestFreePid();
        if (p.condition() != RUNNING || free == NONE) {
            throw new IllegalStateException("not running, or no pid is free");
        }
        Proc child = new Proc(free);
        child.inherit(p);
        table[free] = child;
        return free;
    }

    public int exec(int pid) throws IndexOutOfBoundsException, IllegalStateException {
        Proc p = find(pid);
        requireCaller(p);
        return p.dropCatches();
    }

    public void exit(int pid, int code)
            throws IndexOutOfBoundsException, IllegalArgumentException, IllegalStateException {
        Proc p = find(pid);
        requireRange(code, 0, LAST_CODE);
        requireCaller(p);
        terminate(p, EXITED, code);
        processEvents();
    }

    public boolean waitAny(int pid, boolean forStops) throws IndexOutOfBoundsException, IllegalStateException {
        Proc p = find(pid);
        requireCaller(p);
        return beginWait(p, NONE, forStops);
    }

    public boolean waitFor(int pid, int child, boolean forStops)
            throws IndexOutOfBoundsException, IllegalArgumentException, IllegalStateException {
        Proc p = find(pid);
        requireNumber(child);
        requireCaller(p);
        return beginWait(p, child, forStops);
    }

    public int setAction(int pid, int signal, int action)
            throws IndexOutOfBoundsException, IllegalArgumentException, IllegalStateException {
        Proc p = find(pid);
        requireRange(signal, 0, SIGNALS - 1);
        requireRange(action, DEFAULT, CATCH);
        if (signal == KILL || signal == STOP) {
            throw new IllegalArgumentException("KILL and STOP have no action");
        }
        requireCaller(p);
        int previous = p.actionFor(signal);
        p.changeAction(signal, action);
        return previous;
    }

    public int setMask(int pid, int signals)
            throws IndexOutOfBoundsException, IllegalArgumentException, IllegalStateException {
        Proc p = find(pid);
        requireRange(signals, 0, (1 << SIGNALS) - 1);
        requireCaller(p);
        int previous = p.mask;
        p.mask = signals & ~UNBLOCKABLE;
        deliver(p);
        processEvents();
        return previous;
    }

    public void beginSession(int pid) throws IndexOutOfBoundsException, IllegalStateException {
        Proc p = find(pid);
        requireCaller(p);
        if (isGroupOfAny(pid)) {
            throw new IllegalStateException("a process has the group with this number");
        }
        p.group = pid;
        p.session = pid;
    }

    public int setGroup(int pid, int target, int group)
            throws IndexOutOfBoundsException, IllegalArgumentException, IllegalStateException {
        Proc p = find(pid);
        Proc t = find(target);
        requireNumber(group);
        requireCaller(p);
        if (!mayMove(p, t) || (group != target && !hasMemberIn(group, p.session))) {
            throw new IllegalStateException("this target or this group is not possible");
        }
        int previous = t.group;
        t.group = group;
        return previous;
    }

    public boolean setReaper(int pid, boolean isReaper) throws IndexOutOfBoundsException, IllegalStateException {
        Proc p = find(pid);
        requireCaller(p);
        boolean previous = p.reaper;
        p.reaper = isReaper;
        return previous;
    }

    public void openTerminal(int pid) throws IndexOutOfBoundsException, IllegalStateException {
        Proc p = find(pid);
        requireCaller(p);
        if (!p.leadsSession() || terminalHolder != NONE) {
            throw new IllegalStateException("not the leader of a session, or the terminal is taken");
        }
        terminalHolder = p.session;
        foregroundGroup = p.group;
    }

    public int setForeground(int pid, int group)
            throws IndexOutOfBoundsException, IllegalArgumentException, IllegalStateException {
        Proc p = find(pid);
        requireNumber(group);
        requireCaller(p);
        if (p.session != terminalHolder || !hasMemberIn(group, p.session)) {
            throw new IllegalStateException("not the session's terminal, or not the session's group");
        }
        int previous = foregroundGroup;
        foregroundGroup = group;
        return previous;
    }

    // ---- from outside

    public void send(int pid, int signal) throws IndexOutOfBoundsException, IllegalArgumentException {
        find(pid);
        requireRange(signal, 0, SIGNALS - 1);
        events.append(signal, pid);
        processEvents();
    }

    public int sendToGroup(int group, int signal) throws IllegalArgumentException {
        requireNumber(group);
        requireRange(signal, 0, SIGNALS - 1);
        int members = appendForMembers(group, signal);
        processEvents();
        return members;
    }

    public int type(boolean isSuspend) throws IllegalStateException {
        requireTerminal();
        int members = appendForMembers(foregroundGroup, isSuspend ? TSTP : INT);
        processEvents();
        return members;
    }

    public int hangUp() throws IllegalStateException {
        requireTerminal();
        int holder = terminalHolder;
        freeTerminal();
        // A session's number is its leader's pid, and the leader of the one with the terminal lives.
        events.append(HUP, holder);
        processEvents();
        return holder;
    }

    // ---- processes

    public int processes() {
        int count = 0;
        for (Proc p : table) {
            if (p != null) {
                count++;
            }
        }
        return count;
    }

    public boolean exists(int pid) throws IllegalArgumentException {
        requireNumber(pid);
        return lookUp(pid) != null;
    }

    public int state(int pid) throws IndexOutOfBoundsException {
        return find(pid).condition();
    }

    public int parent(int pid) throws IndexOutOfBoundsException {
        Proc q = find(pid).parent;
        return q == null ? NONE : q.pid;
    }

    public int group(int pid) throws IndexOutOfBoundsException {
        return find(pid).group;
    }

    public int session(int pid) throws IndexOutOfBoundsException {
        return find(pid).session;
    }

    public int pending(int pid) throws IndexOutOfBoundsException {
        return find(pid).pending;
    }

    public int caught(int pid) throws IndexOutOfBoundsException {
        return find(pid).caught;
    }

    public boolean isOrphaned(int group) throws IllegalArgumentException {
        requireNumber(group);
        return !contains(attachedGroups(), group);
    }

    public int terminalSession() {
        return terminalHolder;
    }

    public int foreground() {
        return foregroundGroup;
    }

    // ---- how the last wait of a process that has ended, ended

    public int waitResult(int pid) throws IndexOutOfBoundsException {
        return find(pid).waitResult;
    }

    public int reportedChild(int pid) throws IndexOutOfBoundsException {
        return find(pid).reportedChild;
    }

    public int reportedValue(int pid) throws IndexOutOfBoundsException {
        return find(pid).reportedValue;
    }

    // ---- what the calls require

    private Proc find(int pid) {
        Proc p = lookUp(pid);
        if (p == null) {
            throw new IndexOutOfBoundsException("there is no such process");
        }
        return p;
    }

    private static void requireRange(int value, int lowest, int highest) {
        if (value < lowest || value > highest) {
            throw new IllegalArgumentException("an argument is out of range");
        }
    }

    private static void requireNumber(int number) {
        requireRange(number, INIT, LAST_PID);
    }

    private static void requireCaller(Proc p) {
        if (p.pid == INIT || p.condition() != RUNNING) {
            throw new IllegalStateException("the caller is init, or not running");
        }
    }

    private void requireTerminal() {
        if (terminalHolder == NONE) {
            throw new IllegalStateException("no session has the terminal");
        }
    }

    // ---- processes, groups and sessions

    private Proc lookUp(int pid) {
        return pid >= INIT && pid <= LAST_PID ? table[pid] : null;
    }

    private void remove(Proc p) {
        if (p.pid >= INIT && p.pid <= LAST_PID) {
            table[p.pid] = null;
        }
    }

    private int lowestFreePid() {
        long used = 0;
        for (Proc p : table) {
            if (p != null) {
                used |= 1L << p.pid | 1L << p.group | 1L << p.session;
            }
        }
        for (int pid = INIT; pid <= LAST_PID; pid++) {
            if (!contains(used, pid)) {
                return pid;
            }
        }
        return NONE;
    }

    private boolean isGroupOfAny(int group) {
        for (Proc p : table) {
            if (p != null && p.group == group) {
                return true;
            }
        }
        return false;
    }

    private boolean hasMemberIn(int group, int session) {
        for (Proc p : table) {
            if (p != null && p.isMemberOf(group) && p.session == session) {
                return true;
            }
        }
        return false;
    }

    private boolean hasStoppedMember(int group) {
        for (Proc p : table) {
            if (p != null && p.isMemberOf(group) && p.stopped) {
                return true;
            }
        }
        return false;
    }

    private static boolean mayMove(Proc mover, Proc target) {
        return (target == mover || target.parent == mover) && !target.zombie
                && !target.leadsSession() && target.session == mover.session;
    }

    /** The groups that are not orphaned, as a set: bit g stands for the group g. */
    private long attachedGroups() {
        long attached = 0;
        for (Proc p : table) {
            if (p != null && p.attachesItsGroup()) {
                attached |= 1L << p.group;
            }
        }
        return attached;
    }

    private static boolean contains(long numbers, int number) {
        return (numbers >> number & 1) == 1;
    }

    private void freeTerminal() {
        terminalHolder = NONE;
        foregroundGroup = NONE;
    }

    // ---- events

    private int appendForMembers(int group, int signal) {
        int members = 0;
        for (Proc p : table) {
            if (p != null && p.isMemberOf(group)) {
                events.append(signal, p.pid);
                members++;
            }
        }
        return members;
    }

    private void processEvents() {
        for (int done = 0; done < EVENT_LIMIT && events.advance(); done++) {
            int kind = events.currentKind;
            Proc p = lookUp(events.currentPid);
            if (p != null && kind == END_OF_CHILD) {
                noticeEnd(p);
            } else if (p != null && kind == STOP_OF_CHILD) {
                noticeStop(p);
            } else if (p != null && p.pid != INIT && !p.zombie) {
                takeSignal(p, kind);
            }
        }
        events.clear();
    }

    private void takeSignal(Proc p, int signal) {
        if (signal == CONT) {
            p.forget(TSTP);
            p.resume();
        } else if (signal == STOP || signal == TSTP) {
            p.forget(CONT);
        }
        if (signal == KILL) {
            terminate(p, KILLED, KILL);
        } else if (signal == STOP) {
            stop(p, STOP);
        } else if (p.heeds(signal)) {
            p.pending |= 1 << signal;
        }
        deliver(p);
    }

    private void noticeEnd(Proc child) {
        Proc q = child.parent;
        if (q == null) {
            return;
        }
        if (q.pid == INIT || q.actionFor(CHILD) == IGNORE) {
            remove(child);
        }
        tellParent(q);
    }

    private void noticeStop(Proc child) {
        Proc q = child.parent;
        if (q != null && child.stopped) {
            tellParent(q);
        }
    }

    private void tellParent(Proc q) {
        if (q.pid != INIT) {
            checkWait(q);
            events.append(CHILD, q.pid);
        }
    }

    // ---- signals

    private void deliver(Proc p) {
        // One pass from the lowest signal up is enough, since no signal becomes pending meanwhile.
        for (int signal = 0; signal < SIGNALS && !p.zombie && !p.stopped; signal++) {
            if ((p.pending & ~p.mask & 1 << signal) == 0) {
                continue;
            }
            p.forget(signal);
            int action = p.actionFor(signal);
            if (action == CATCH) {
                p.catchSignal();
            } else if (action == DEFAULT && signal != TSTP) {
                terminate(p, KILLED, signal);
            } else if (action == DEFAULT && contains(attachedGroups(), p.group)) {
                stop(p, TSTP);
            }
        }
        checkWait(p);
    }

    private void stop(Proc p, int signal) {
        if (!p.stopped) {
            p.stopped = true;
            p.report = STOPPED_BY;
            p.value = signal;
            events.append(STOP_OF_CHILD, p.pid);
        }
    }

    private void terminate(Proc p, int how, int value) {
        long attachedBefore = attachedGroups();
        p.becomeZombie(how, value);
        long formerZombies = handOverChildren(p);
        long orphaned = attachedBefore & ~attachedGroups();
        if (p.leadsSession() && p.session == terminalHolder) {
            int group = foregroundGroup;
            freeTerminal();
            appendForMembers(group, HUP);
        }
        for (int pid = INIT; pid <= LAST_PID; pid++) {
            if (contains(formerZombies, pid)) {
                events.append(END_OF_CHILD, pid);
            }
        }
        for (int group = INIT; group <= LAST_PID; group++) {
            if (contains(orphaned, group) && hasStoppedMember(group)) {
                appendForMembers(group, HUP);
                appendForMembers(group, CONT);
            }
        }
        events.append(END_OF_CHILD, p.pid);
    }

    /** Gives the children of a process their new parent; answers the set of those that are ZOMBIEs. */
    private long handOverChildren(Proc p) {
        Proc heir = heirOf(p);
        long zombies = 0;
        for (Proc c : table) {
            if (c != null && c.parent == p) {
                c.parent = heir;
                zombies |= c.zombie ? 1L << c.pid : 0;
            }
        }
        return zombies;
    }

    private Proc heirOf(Proc p) {
        Proc q = p.parent;
        for (int up = 0; up < LAST_PID && q != null; up++) {
            if (q.reaper && !q.zombie) {
                return q;
            }
            q = q.parent;
        }
        return lookUp(INIT);
    }

    // ---- waiting

    private boolean beginWait(Proc p, int child, boolean forStops) {
        p.waiting = true;
        p.awaited = child;
        p.awaitsStops = forStops;
        checkWait(p);
        return !p.waiting;
    }

    private void checkWait(Proc q) {
        if (q.condition() != WAITING) {
            return;
        }
        boolean isInVain = true;
        for (Proc c : table) {
            if (c != null && q.awaits(c)) {
                isInVain = false;
                if (q.canReport(c)) {
                    report(q, c);
                    return;
                }
            }
        }
        if (isInVain) {
            q.endWait(NO_CHILD, NONE, NONE);
        }
    }

    private void report(Proc q, Proc child) {
        q.endWait(child.report, child.pid, child.value);
        child.report = NONE;
        if (child.zombie) {
            remove(child);
        }
    }

    /** A process of the table. */
    private static final class Proc {
        final int pid;
        Proc parent;
        int group;
        int session;
        boolean reaper;

        boolean zombie;
        boolean stopped;
        // Stays set while a process that waits is stopped, too.
        boolean waiting;
        int awaited = NONE;
        boolean awaitsStops;

        // What a wait of the parent can report: EXITED, KILLED, STOPPED_BY or NONE; and the code or signal of it.
        int report = NONE;
        int value = NONE;

        // Sets of signals: bit s stands for the signal s. Those neither ignored nor caught have the action DEFAULT.
        int ignores;
        int catches;
        int mask;
        int pending;
        int caught;

        int waitResult = NONE;
        int reportedChild = NONE;
        int reportedValue = NONE;

        Proc(int pid) {
            this.pid = pid;
            group = pid;
            session = pid;
        }

        void inherit(Proc from) {
            parent = from;
            group = from.group;
            session = from.session;
            ignores = from.ignores;
            catches = from.catches;
            mask = from.mask;
        }

        int condition() {
            if (zombie) {
                return ZOMBIE;
            }
            if (stopped) {
                return STOPPED;
            }
            return waiting ? WAITING : RUNNING;
        }

        boolean isMemberOf(int number) {
            return group == number && !zombie;
        }

        boolean leadsSession() {
            return pid == session;
        }

        boolean attachesItsGroup() {
            return !zombie && parent != null && !parent.zombie && parent.session == session && parent.group != group;
        }

        int actionFor(int signal) {
            if ((catches >> signal & 1) == 1) {
                return CATCH;
            }
            return (ignores >> signal & 1) == 1 ? IGNORE : DEFAULT;
        }

        void changeAction(int signal, int action) {
            int bit = 1 << signal;
            ignores = action == IGNORE ? ignores | bit : ignores & ~bit;
            catches = action == CATCH ? catches | bit : catches & ~bit;
            if (!heeds(signal)) {
                forget(signal);
            }
        }

        int dropCatches() {
            int dropped = catches;
            catches = 0;
            pending &= ~(dropped & (1 << CHILD | 1 << CONT));
            return Integer.bitCount(dropped);
        }

        boolean heeds(int signal) {
            int action = actionFor(signal);
            return action == CATCH || (action == DEFAULT && signal != CHILD && signal != CONT);
        }

        void forget(int signal) {
            pending &= ~(1 << signal);
        }

        void catchSignal() {
            caught++;
            if (waiting) {
                endWait(INTERRUPTED, NONE, NONE);
            }
        }

        void resume() {
            if (stopped) {
                stopped = false;
                report = NONE;
            }
        }

        void becomeZombie(int how, int valueOfIt) {
            zombie = true;
            stopped = false;
            waiting = false;
            pending = 0;
            report = how;
            value = valueOfIt;
        }

        boolean awaits(Proc child) {
            return child.parent == this && (awaited == NONE || awaited == child.pid);
        }

        boolean canReport(Proc child) {
            return child.report != NONE && (child.report != STOPPED_BY || awaitsStops);
        }

        void endWait(int result, int child, int valueOfIt) {
            waiting = false;
            waitResult = result;
            reportedChild = child;
            reportedValue = valueOfIt;
        }
    }

    /** The events that are appended and not processed yet, from the first one to the last one. */
    private static final class EventQueue {
        private static final int FIRST_LENGTH = 64;

        private int[] kinds = new int[FIRST_LENGTH];
        private int[] pids = new int[FIRST_LENGTH];
        private int head;
        private int tail;
        int currentKind;
        int currentPid;

        void append(int kind, int pid) {
            if (tail >= kinds.length && tail < EVENT_LIMIT) {
                kinds = Arrays.copyOf(kinds, 2 * tail);
                pids = Arrays.copyOf(pids, 2 * tail);
            }
            if (tail < kinds.length && tail < pids.length) {
                kinds[tail] = kind;
                pids[tail] = pid;
                tail++;
            }
        }

        /** Makes the next event the current one; answers false, if there is none. */
        boolean advance() {
            if (head >= tail || head >= kinds.length || head >= pids.length) {
                return false;
            }
            currentKind = kinds[head];
            currentPid = pids[head];
            head++;
            return true;
        }

        void clear() {
            head = 0;
            tail = 0;
        }
    }
}
