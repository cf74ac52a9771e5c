/** The boundary cases of 'Terms', one test for each of its sentences, in the document's order. */
public final class TermsEdgesTest {
    private static final int NONE = Signalpost.NONE;
    private static final int HUP = Signalpost.HUP, INT = Signalpost.INT, KILL = Signalpost.KILL;
    private static final int TERM = Signalpost.TERM, CHILD = Signalpost.CHILD, STOP = Signalpost.STOP;
    private static final int TSTP = Signalpost.TSTP, CONT = Signalpost.CONT, USER = Signalpost.USER;
    private static final int DEFAULT = Signalpost.DEFAULT, IGNORE = Signalpost.IGNORE, CATCH = Signalpost.CATCH;
    private static final int RUNNING = Signalpost.RUNNING, WAITING = Signalpost.WAITING;
    private static final int STOPPED = Signalpost.STOPPED, ZOMBIE = Signalpost.ZOMBIE;
    private static final int EXITED = Signalpost.EXITED, KILLED = Signalpost.KILLED;
    private static final int STOPPED_BY = Signalpost.STOPPED_BY, INTERRUPTED = Signalpost.INTERRUPTED;
    private static final int NO_CHILD = Signalpost.NO_CHILD;
    private static final int[] SETTABLE = {HUP, INT, TERM, CHILD, TSTP, CONT, USER};

    public static void main(String[] args) {
        processes();
        signals();
        signalEvents();
        endAndStopEvents();
        terminations();
        waits();
        Check.finish();
    }

    /** Init, its child 2, whose child is 3, and so on. */
    private static Signalpost chain(int last) {
        Signalpost s = new Signalpost();
        for (int pid = 1; pid < last; pid++) {
            s.fork(pid);
        }
        return s;
    }

    /** Init, its child 2, and the children of 2, from 3 on. */
    private static Signalpost family(int last) {
        Signalpost s = chain(2);
        for (int pid = 3; pid <= last; pid++) {
            s.fork(2);
        }
        return s;
    }

    // ---- Processes

    private static void processes() {
        pidsAre1To40();
        effectsAreComplete();
        stoppedWhileItWaits();
        stoppedWhileItWaitsForOne();
        removedDoNotExist();
        initExistsAlways();
        initTakesNoNotice();
        initMayForkAlone();
        pidsThatAreFree();
        membersAreNoZombies();
        leadsItsSession();
        orphanedByEachCondition();
        orphanedWhateverTheParentDoes();
    }

    /** "Processes have the numbers (pids) 1 to 40." */
    private static void pidsAre1To40() {
        Signalpost s = chain(40);
        Check.due("pid 40 has the parent 39", s.parent(40), 39);
        Check.due("pid 40 exists", s.exists(40), true);
        Check.due("40 processes", s.processes(), 40);
        Check.noSuchProcess("pid 41", () -> s.state(41));
        Check.noSuchProcess("pid 0", () -> s.state(0));
        Check.outOfRange("pid 41 may not be asked for", () -> s.exists(41));
        Check.outOfRange("pid 0 may not be asked for", () -> s.exists(0));
        s.setGroup(40, 40, 40);
        Check.due("group 40", s.group(40), 40);
        Check.due("a member of 40", s.sendToGroup(40, STOP), 1);
        Check.due("40 is STOPPED", s.state(40), STOPPED);
    }

    /** "All effects of a call, such as signals and processes that terminate, are complete when it returns." */
    private static void effectsAreComplete() {
        Signalpost s = chain(40);
        for (int pid = 2; pid < 40; pid++) {
            s.setAction(pid, CHILD, CATCH);
        }
        s.setReaper(2, true);
        s.waitFor(2, 3, false);
        s.sendToGroup(1, TERM);
        Check.due("39 processes ended, and init removed all", s.processes(), 1);
    }

    /** "A process that is stopped while it waits is STOPPED, and waits on when it is continued." */
    private static void stoppedWhileItWaits() {
        Signalpost s = family(3);
        s.waitAny(2, true);
        s.send(2, STOP);
        Check.due("STOPPED", s.state(2), STOPPED);
        s.send(3, STOP);
        Check.due("a stop is not reported to a STOPPED", s.waitResult(2), NONE);
        s.send(3, CONT);
        s.send(2, CONT);
        Check.due("it waits on", s.state(2), WAITING);
        s.send(2, STOP);
        s.send(3, STOP);
        s.send(2, CONT);
        Check.due("for stops, too", s.waitResult(2), STOPPED_BY);
        Check.due("RUNNING", s.state(2), RUNNING);

        Signalpost t = family(3);
        t.send(2, STOP);
        t.send(2, CONT);
        Check.due("who did not wait does not wait now", t.state(2), RUNNING);

        Signalpost u = family(4);
        u.setGroup(2, 2, 2);
        u.setAction(2, USER, CATCH);
        u.waitAny(2, false);
        u.send(2, TSTP);
        Check.due("STOPPED by TSTP", u.state(2), STOPPED);
        u.send(2, USER);
        u.exit(3, 3);
        Check.due("USER is pending", u.pending(2), 1 << USER);
        u.send(2, CONT);
        Check.due("signals are delivered before the wait is checked", u.waitResult(2), INTERRUPTED);
        Check.due("the ZOMBIE is left", u.state(3), ZOMBIE);
    }

    private static void stoppedWhileItWaitsForOne() {
        Signalpost s = family(4);
        s.waitFor(2, 4, false);
        s.send(2, STOP);
        s.exit(3, 3);
        s.send(2, CONT);
        Check.due("it waits on for 4 alone", s.state(2), WAITING);
        s.send(4, STOP);
        Check.due("and not for stops", s.state(2), WAITING);
        s.send(2, STOP);
        s.send(4, KILL);
        Check.due("it is STOPPED", s.state(2), STOPPED);
        s.send(2, CONT);
        Check.due("4 was killed", s.waitResult(2), KILLED);
        Check.due("by KILL", s.reportedValue(2), KILL);
        Check.due("4 is removed", s.exists(4), false);
    }

    /** "Removed processes do not exist any more." */
    private static void removedDoNotExist() {
        Signalpost s = family(3);
        s.exit(3, 0);
        Check.due("a ZOMBIE exists", s.exists(3), true);
        s.waitAny(2, false);
        Check.due("removed", s.exists(3), false);
        Check.noSuchProcess("state", () -> s.state(3));
        Check.noSuchProcess("send", () -> s.send(3, KILL));
        Check.due("its pid is given anew", s.fork(2), 3);
        Check.due("with no exit code to report", s.waitAny(2, true), false);
    }

    /**
     * "Init, the process 1, exists always, is RUNNING, and has the group 1 and the session 1; its parent is NONE."
     */
    private static void initExistsAlways() {
        Signalpost s = family(5);
        for (int signal = HUP; signal <= USER; signal++) {
            s.send(1, signal);
            s.sendToGroup(1, signal);
        }
        Check.due("init is left alone", s.processes(), 1);
        Check.due("RUNNING", s.state(1), RUNNING);
        Check.due("group", s.group(1), 1);
        Check.due("session", s.session(1), 1);
        Check.due("parent", s.parent(1), NONE);
        Check.due("it forks on", s.fork(1), 2);
    }

    /** "It takes no notice of signals." */
    private static void initTakesNoNotice() {
        Signalpost s = family(3);
        for (int signal = HUP; signal <= USER; signal++) {
            s.send(1, signal);
            Check.due("RUNNING after " + signal, s.state(1), RUNNING);
            Check.due("nothing pending after " + signal, s.pending(1), 0);
            Check.due("nothing caught after " + signal, s.caught(1), 0);
        }
        s.send(2, STOP);
        s.send(2, KILL);
        Check.due("no CHILD is pending for init", s.pending(1), 0);
        Check.due("init reports nothing", s.waitResult(1), NONE);
        Check.due("no child", s.reportedChild(1), NONE);
        Check.due("no value", s.reportedValue(1), NONE);
    }

    /** "A call that is made by init throws IllegalStateException, except fork()." */
    private static void initMayForkAlone() {
        Signalpost s = family(3);
        Check.notNow("exec", () -> s.exec(1));
        Check.notNow("exit", () -> s.exit(1, 0));
        Check.notNow("waitAny", () -> s.waitAny(1, true));
        Check.notNow("waitFor", () -> s.waitFor(1, 2, false));
        Check.notNow("setAction", () -> s.setAction(1, HUP, IGNORE));
        Check.notNow("setMask", () -> s.setMask(1, 0));
        Check.notNow("beginSession", () -> s.beginSession(1));
        Check.notNow("setGroup of itself", () -> s.setGroup(1, 1, 1));
        Check.notNow("setGroup of a child", () -> s.setGroup(1, 2, 2));
        Check.notNow("setReaper", () -> s.setReaper(1, true));
        Check.notNow("openTerminal, though it leads its session", () -> s.openTerminal(1));
        Check.notNow("setForeground", () -> s.setForeground(1, 1));
        Check.due("fork", s.fork(1), 4);
    }

    /**
     * "A pid is free, if there is no process with it, and no process (ZOMBIE or not) that has it as group or
     * session."
     */
    private static void pidsThatAreFree() {
        Signalpost s = family(5);
        s.setGroup(3, 3, 3);
        s.setGroup(2, 4, 3);
        s.send(3, KILL);
        Check.due("3 is a ZOMBIE", s.fork(2), 6);
        s.waitFor(2, 3, false);
        Check.due("3 is the group of 4", s.fork(2), 7);
        s.exit(4, 0);
        Check.due("3 is the group of a ZOMBIE", s.fork(2), 8);
        s.waitFor(2, 4, false);
        Check.due("3 is free", s.fork(2), 3);
        Check.due("4 is free", s.fork(2), 4);

        Signalpost t = family(3);
        t.setReaper(2, true);
        t.beginSession(3);
        t.fork(3);
        t.setGroup(3, 4, 4);
        t.exit(3, 0);
        t.waitFor(2, 3, false);
        Check.due("3 is the session of 4, and no group", t.fork(2), 5);
        t.exit(4, 0);
        Check.due("3 is the session of a ZOMBIE", t.fork(2), 6);
        t.waitFor(2, 4, false);
        Check.due("3 is free then", t.fork(2), 3);
    }

    /** "The members of a group are the processes with this group that are not ZOMBIEs." */
    private static void membersAreNoZombies() {
        Signalpost s = family(6);
        for (int pid = 3; pid <= 6; pid++) {
            s.setGroup(2, pid, 3);
        }
        s.send(4, STOP);
        s.waitAny(5, false);
        Check.due("RUNNING and STOPPED ones", s.sendToGroup(3, CHILD), 4);
        s.exit(3, 0);
        Check.due("no ZOMBIE, though it gave its number", s.sendToGroup(3, CHILD), 3);
        s.fork(5);
        s.waitAny(5, false);
        Check.due("the child of a member is one; a WAITING one is", s.sendToGroup(3, CHILD), 4);
        Check.due("5 is WAITING", s.state(5), WAITING);
        s.sendToGroup(3, KILL);
        Check.due("ZOMBIEs alone", s.sendToGroup(3, CHILD), 0);
    }

    /** "A process leads its session, if its pid is the number of the session." */
    private static void leadsItsSession() {
        Signalpost s = family(4);
        s.beginSession(3);
        s.fork(3);
        s.setGroup(3, 5, 5);
        Check.notNow("5 leads a group, but no session", () -> s.openTerminal(5));
        Check.notNow("4 is in the session of init", () -> s.openTerminal(4));
        Check.notNow("3 may not change its group", () -> s.setGroup(3, 3, 5));
        Check.notNow("not even to the same", () -> s.setGroup(3, 3, 3));
        Check.due("5 may", s.setGroup(5, 5, 3), 5);
        s.openTerminal(3);
        Check.due("3 may", s.terminalSession(), 3);
    }

    /**
     * "A group is orphaned, if no member of it has a parent that is not a ZOMBIE, is in the same session, and in
     * another group."
     */
    private static void orphanedByEachCondition() {
        Signalpost s = family(5);
        Check.due("group 1: all parents are in it", s.isOrphaned(1), true);
        s.setGroup(3, 3, 3);
        Check.due("a parent of the session, in another group", s.isOrphaned(3), false);
        s.setGroup(2, 2, 3);
        Check.due("init keeps it, when its parent is in it, too", s.isOrphaned(3), false);
        Check.due("4 has a parent in another group now", s.isOrphaned(1), false);
        s.setGroup(2, 2, 2);
        s.setGroup(4, 4, 3);
        s.exit(3, 0);
        Check.due("4 keeps the group of a ZOMBIE", s.isOrphaned(3), false);
        s.exit(4, 0);
        Check.due("ZOMBIEs are no members", s.isOrphaned(3), true);
        s.beginSession(5);
        Check.due("the parent is in another session", s.isOrphaned(5), true);
        s.fork(5);
        s.setGroup(6, 6, 6);
        Check.due("a parent that leads its session", s.isOrphaned(6), false);
        s.exit(5, 0);
        Check.due("the new parent is in another session", s.isOrphaned(6), true);
    }

    private static void orphanedWhateverTheParentDoes() {
        Signalpost s = chain(3);
        s.setGroup(3, 3, 3);
        s.waitAny(2, false);
        Check.due("a WAITING parent", s.isOrphaned(3), false);
        s.send(2, STOP);
        Check.due("a STOPPED parent", s.isOrphaned(3), false);
        s.send(3, STOP);
        Check.due("a STOPPED member", s.isOrphaned(3), false);
        s.send(2, KILL);
        Check.due("init is the parent", s.isOrphaned(3), false);
        Check.due("so it is not continued", s.state(3), STOPPED);
    }

    // ---- Signals

    private static void signals() {
        signalsHaveTheNumbers0To8();
        defaultsOfEach();
        actionsOfEach();
        firstActionsAndMask();
        maskWithoutKillAndStop();
        deliveryToZombieOrStopped();
        deliveryByRisingNumbers();
        caughtByWaitingAndRunning();
        tstpByEachAction();
        afterDeliveryTheWaitIsChecked();
    }

    /** "..., with the numbers 0 to 8." */
    private static void signalsHaveTheNumbers0To8() {
        Signalpost s = family(3);
        Check.outOfRange("-1", () -> s.send(3, -1));
        Check.outOfRange("9", () -> s.send(3, 9));
        s.send(3, 8);
        Check.due("8", s.state(3), ZOMBIE);
        s.fork(2);
        s.send(4, 0);
        Check.due("0", s.state(4), ZOMBIE);
    }

    /** "By default, CHILD and CONT are ignored, STOP and TSTP stop a process, and all others terminate it." */
    private static void defaultsOfEach() {
        for (int signal = HUP; signal <= USER; signal++) {
            Signalpost s = family(3);
            s.setGroup(3, 3, 3);
            s.send(3, signal);
            int due = signal == CHILD || signal == CONT ? RUNNING : signal == STOP || signal == TSTP ? STOPPED : ZOMBIE;
            Check.due("state after " + signal, s.state(3), due);
            Check.due("pending after " + signal, s.pending(3), 0);
            Check.due("caught after " + signal, s.caught(3), 0);
            boolean isTold = s.waitAny(2, true);
            Check.due("told after " + signal, isTold, due != RUNNING);
            Check.due("the signal told", s.reportedValue(2), due == RUNNING ? NONE : signal);
            Check.due("how", s.waitResult(2), due == RUNNING ? NONE : due == STOPPED ? STOPPED_BY : KILLED);
        }
    }

    /** "For each signal but KILL and STOP a process has an action: DEFAULT, IGNORE or CATCH." */
    private static void actionsOfEach() {
        for (int signal : SETTABLE) {
            Signalpost s = family(3);
            s.setAction(3, signal, IGNORE);
            s.send(3, signal);
            Check.due("ignored " + signal, s.state(3) + s.pending(3) + s.caught(3), 0);
            s.setAction(3, signal, CATCH);
            s.send(3, signal);
            Check.due("caught " + signal, s.caught(3), 1);
            Check.due("RUNNING after " + signal, s.state(3) + s.pending(3), RUNNING);
        }
        for (int signal : new int[] {KILL, STOP}) {
            Signalpost s = family(3);
            for (int action = DEFAULT; action <= CATCH; action++) {
                int a = action;
                Check.outOfRange("no action for " + signal, () -> s.setAction(3, signal, a));
            }
        }
    }

    /** "All are DEFAULT at first. It has a mask ... and a set of pending signals, both empty at first." */
    private static void firstActionsAndMask() {
        Signalpost s = family(3);
        for (int pid = 2; pid <= 3; pid++) {
            for (int signal : SETTABLE) {
                Check.due("action of " + signal, s.setAction(pid, signal, DEFAULT), DEFAULT);
            }
            Check.due("pending", s.pending(pid), 0);
            Check.due("mask", s.setMask(pid, 0), 0);
        }
    }

    /** "... the set of signals that it blocks (never KILL or STOP)". */
    private static void maskWithoutKillAndStop() {
        Signalpost s = family(4);
        s.setMask(3, 511);
        s.send(3, STOP);
        Check.due("STOP is not blocked", s.state(3), STOPPED);
        Check.due("not pending", s.pending(3), 0);
        s.send(3, KILL);
        Check.due("KILL is not blocked", s.state(3), ZOMBIE);
        for (int signal : new int[] {HUP, INT, TERM, TSTP, USER}) {
            s.setMask(4, 1 << signal);
            s.send(4, signal);
            Check.due("blocked " + signal, s.state(4), RUNNING);
            Check.due("pending " + signal, s.pending(4), 1 << signal);
            s.setAction(4, signal, IGNORE);
        }
        s.setMask(4, 1 << HUP);
        s.setAction(4, HUP, DEFAULT);
        s.setAction(4, INT, DEFAULT);
        s.send(4, INT);
        Check.due("another signal is not blocked", s.state(4), ZOMBIE);
    }

    /** "As long as it is neither a ZOMBIE nor STOPPED, and a signal is pending that it does not block ..." */
    private static void deliveryToZombieOrStopped() {
        Signalpost s = family(3);
        s.setAction(3, INT, CATCH);
        s.send(3, STOP);
        s.send(3, INT);
        s.send(3, INT);
        Check.due("a STOPPED one catches nothing", s.caught(3), 0);
        Check.due("it is pending once", s.pending(3), 1 << INT);
        s.send(3, CONT);
        Check.due("caught when it is continued", s.caught(3), 1);
        Check.due("not pending any more", s.pending(3), 0);

        Signalpost t = family(3);
        t.setMask(3, 1 << USER | 1 << TERM);
        t.send(3, STOP);
        t.send(3, USER);
        t.send(3, HUP);
        t.send(3, TERM);
        t.send(3, CONT);
        t.waitAny(2, false);
        Check.due("HUP ended it, since the others are blocked", t.reportedValue(2), HUP);
    }

    /** "... the one with the lowest number of these is not pending any more, and takes effect". */
    private static void deliveryByRisingNumbers() {
        int[] killers = {HUP, INT, TERM, USER};
        for (int low = 0; low < killers.length; low++) {
            Signalpost s = family(3);
            s.setMask(3, 511);
            for (int i = killers.length - 1; i >= low; i--) {
                s.send(3, killers[i]);
            }
            s.setMask(3, 0);
            s.waitAny(2, false);
            Check.due("the lowest one", s.reportedValue(2), killers[low]);
        }
        Signalpost t = family(3);
        t.setAction(3, HUP, CATCH);
        t.setAction(3, INT, CATCH);
        t.setAction(3, TERM, CATCH);
        t.setMask(3, 511);
        t.send(3, USER);
        t.send(3, TERM);
        t.send(3, INT);
        t.send(3, HUP);
        t.setMask(3, 1 << INT);
        Check.due("HUP and TERM were caught before USER ended it", t.caught(3), 2);
        Check.due("a ZOMBIE has nothing pending, though INT was blocked", t.pending(3), 0);
        Check.due("a ZOMBIE", t.state(3), ZOMBIE);
    }

    /** "If the action is CATCH, it is caught, and if the process is WAITING, its wait ends with INTERRUPTED." */
    private static void caughtByWaitingAndRunning() {
        for (int signal : SETTABLE) {
            Signalpost s = family(3);
            s.setAction(2, signal, CATCH);
            s.send(2, signal);
            Check.due("caught while RUNNING", s.caught(2), 1);
            Check.due("no wait has ended", s.waitResult(2), NONE);
            s.waitFor(2, 3, true);
            s.send(2, signal);
            Check.due("caught while WAITING", s.caught(2), 2);
            Check.due("INTERRUPTED by " + signal, s.waitResult(2), INTERRUPTED);
            Check.due("RUNNING", s.state(2), RUNNING);
            Check.due("no child was reported", s.reportedChild(2), NONE);
            Check.due("no value was reported", s.reportedValue(2), NONE);
        }
        Signalpost t = family(3);
        t.setAction(2, INT, CATCH);
        t.setMask(2, 1 << INT);
        t.waitAny(2, false);
        t.send(2, INT);
        Check.due("a blocked one interrupts nothing", t.state(2), WAITING);
        t.send(2, CHILD);
        t.send(2, CONT);
        Check.due("an ignored one neither", t.state(2), WAITING);
    }

    /** "If the action is DEFAULT and the signal is TSTP, the process is stopped, unless its group is orphaned." */
    private static void tstpByEachAction() {
        Signalpost s = family(4);
        s.send(3, TSTP);
        Check.due("orphaned: not stopped", s.state(3), RUNNING);
        Check.due("and not pending", s.pending(3), 0);
        Check.due("and not told", s.waitFor(2, 3, true), false);
        s.setAction(4, TSTP, CATCH);
        s.send(4, TSTP);
        Check.due("orphaned: caught", s.caught(4), 1);

        Signalpost t = family(3);
        t.setMask(3, 511);
        t.send(3, TSTP);
        t.send(3, USER);
        t.setMask(3, 1 << USER);
        Check.due("orphaned: TSTP is gone", t.pending(3), 1 << USER);
        t.send(3, TSTP);
        t.setMask(3, 0);
        Check.due("the signals behind it take effect", t.state(3), ZOMBIE);

        Signalpost u = family(3);
        u.setGroup(3, 3, 3);
        u.setMask(3, 1 << TSTP);
        u.send(3, TSTP);
        u.setGroup(3, 3, 1);
        u.setMask(3, 0);
        Check.due("it counts whether the group is orphaned at delivery", u.state(3), RUNNING);
        u.setMask(3, 1 << TSTP);
        u.send(3, TSTP);
        u.setGroup(3, 3, 3);
        u.setMask(3, 0);
        Check.due("the other way round", u.state(3), STOPPED);
    }

    /** "When no such signal is left, its wait is checked." */
    private static void afterDeliveryTheWaitIsChecked() {
        for (int signal : new int[] {CHILD, TSTP, CONT, USER}) {
            Signalpost t = chain(5);
            t.setReaper(2, true);
            t.setAction(2, USER, IGNORE);
            t.send(5, STOP);
            t.waitAny(2, true);
            t.send(4, KILL);
            Check.due("5 is a child of 2", t.parent(5), 2);
            Check.due("the end of 4 is the business of 3", t.state(4), ZOMBIE);
            Check.due("nothing has checked the wait of 2", t.state(2), WAITING);
            t.send(2, signal);
            Check.due("a signal without effect does: " + signal, t.waitResult(2), STOPPED_BY);
            Check.due("5 is reported", t.reportedChild(2), 5);
        }
    }

    // ---- Events: a signal for a process

    private static void signalEvents() {
        signalForNobody();
        contFirst();
        stopFirst();
        secondStop();
        whatBecomesPending();
    }

    /** "If the process is a ZOMBIE, does not exist any more, or is init, nothing happens." */
    private static void signalForNobody() {
        Signalpost s = family(3);
        s.setAction(3, USER, CATCH);
        s.exit(3, 5);
        for (int signal = HUP; signal <= USER; signal++) {
            s.send(3, signal);
        }
        Check.due("a ZOMBIE stays", s.state(3), ZOMBIE);
        Check.due("it catches nothing", s.caught(3), 0);
        Check.due("nothing is pending", s.pending(3), 0);
        s.waitAny(2, false);
        Check.due("it EXITED", s.waitResult(2), EXITED);
        Check.due("its code", s.reportedValue(2), 5);

        // HUP and CONT for the orphans are queued, and 4, ended by HUP, is removed by init before CONT for it comes.
        Signalpost t = chain(3);
        t.beginSession(3);
        t.fork(3);
        t.fork(3);
        t.setGroup(3, 4, 4);
        t.setGroup(3, 5, 4);
        t.send(5, STOP);
        t.exit(3, 0);
        Check.due("4 is gone, and so is 5", t.exists(4) || t.exists(5), false);
        Check.due("the others are left", t.processes(), 3);
    }

    /** "If s is CONT: TSTP is not pending any more, and if the process is STOPPED, it is continued." */
    private static void contFirst() {
        Signalpost s = family(3);
        s.setGroup(3, 3, 3);
        s.setMask(3, 1 << TSTP | 1 << CONT);
        s.send(3, TSTP);
        Check.due("pending", s.pending(3), 1 << TSTP);
        s.send(3, CONT);
        Check.due("CONT for one that is not STOPPED", s.pending(3), 0);
        Check.due("RUNNING", s.state(3), RUNNING);
        s.setAction(3, CONT, CATCH);
        s.send(3, STOP);
        s.send(3, TSTP);
        s.send(3, CONT);
        Check.due("continued, though blocked", s.state(3), RUNNING);
        Check.due("CONT is pending, TSTP is not", s.pending(3), 1 << CONT);
        Check.due("its last stop will not be reported", s.waitAny(2, true), false);
        s.send(2, CONT);
        Check.due("2 waits on", s.state(2), WAITING);
    }

    /** "If s is STOP or TSTP: CONT is not pending any more." */
    private static void stopFirst() {
        for (int signal : new int[] {STOP, TSTP}) {
            for (int action = DEFAULT; action <= CATCH; action++) {
                Signalpost s = family(3);
                s.setAction(3, CONT, CATCH);
                s.setAction(3, TSTP, action);
                s.setMask(3, 1 << CONT);
                s.send(3, CONT);
                Check.due("CONT is pending", s.pending(3), 1 << CONT);
                s.send(3, signal);
                Check.due("CONT is not", s.pending(3), 0);
            }
        }
        for (int signal : new int[] {HUP, INT, TERM, CHILD, USER}) {
            Signalpost t = family(3);
            t.setAction(3, CONT, CATCH);
            t.setMask(3, 511);
            t.send(3, CONT);
            t.send(3, signal);
            Check.due("CONT stays beside " + signal, t.pending(3) & 1 << CONT, 1 << CONT);
        }
    }

    /** "If s is STOP: the process is stopped, unless it is STOPPED." */
    private static void secondStop() {
        Signalpost s = family(3);
        s.setGroup(3, 3, 3);
        s.setAction(2, CHILD, CATCH);
        s.send(3, TSTP);
        s.send(3, STOP);
        Check.due("one stop was told", s.caught(2), 1);
        s.waitAny(2, true);
        Check.due("it was TSTP", s.reportedValue(2), TSTP);
        s.send(3, STOP);
        Check.due("it is not reported again", s.waitAny(2, true), false);
        Check.due("nor told", s.caught(2), 1);
    }

    /**
     * "If s is another signal, and its action is CATCH, or is DEFAULT and s is neither CHILD nor CONT: s becomes
     * pending."
     */
    private static void whatBecomesPending() {
        for (int signal : SETTABLE) {
            for (int action = DEFAULT; action <= CATCH; action++) {
                Signalpost s = family(3);
                s.setAction(3, signal, action);
                s.setMask(3, 511);
                s.send(3, signal);
                s.send(3, signal);
                boolean isHeeded = action == CATCH || action == DEFAULT && signal != CHILD && signal != CONT;
                Check.due("action " + action + " of " + signal, s.pending(3), isHeeded ? 1 << signal : 0);
                Check.due("RUNNING", s.state(3), RUNNING);
            }
        }
    }

    // ---- Events: the end of a process, and the stop of a process

    private static void endAndStopEvents() {
        endOfAnInitChild();
        endWithAnIgnoringParent();
        endWithAStoppedParent();
        endOfOneThatIsGone();
        stopOfAnInitChild();
        stopWithAnyActionOfTheParent();
    }

    /** "If q is init ... c is removed. Then, unless q is init, ..." */
    private static void endOfAnInitChild() {
        Signalpost s = chain(2);
        s.exit(2, 1);
        Check.due("removed", s.exists(2), false);
        Check.due("init waits for nobody", s.waitResult(1), NONE);
        Check.due("init gets no CHILD", s.pending(1) + s.caught(1), 0);
    }

    /** "... or the action of q for CHILD is IGNORE, c is removed. Then ... the wait of q is checked". */
    private static void endWithAnIgnoringParent() {
        for (int action = DEFAULT; action <= CATCH; action++) {
            Signalpost s = family(4);
            s.setAction(2, CHILD, action);
            s.exit(3, 0);
            Check.due("removed, if IGNORE", s.exists(3), action != IGNORE);
            Check.due("caught, if CATCH", s.caught(2), action == CATCH ? 1 : 0);
        }
        Signalpost t = family(4);
        t.setAction(2, CHILD, IGNORE);
        t.waitFor(2, 3, true);
        t.exit(4, 4);
        Check.due("another child", t.state(2), WAITING);
        t.exit(3, 3);
        Check.due("3 is no child any more", t.waitResult(2), NO_CHILD);
        Check.due("nothing is reported", t.reportedChild(2), NONE);
        Check.due("RUNNING", t.state(2), RUNNING);

        Signalpost u = family(4);
        u.setAction(2, CHILD, CATCH);
        u.setMask(2, 1 << CHILD);
        u.exit(3, 3);
        Check.due("CHILD is pending for a parent that blocks it", u.pending(2), 1 << CHILD);
        Check.due("3 is a ZOMBIE", u.state(3), ZOMBIE);
        u.setAction(2, CHILD, IGNORE);
        Check.due("it stays one", u.state(3), ZOMBIE);
        Check.due("and can be waited for", u.waitFor(2, 3, false), true);
    }

    private static void endWithAStoppedParent() {
        Signalpost s = family(4);
        s.setAction(2, CHILD, CATCH);
        s.waitAny(2, false);
        s.send(2, STOP);
        s.exit(3, 3);
        Check.due("the wait of a STOPPED one is not checked", s.state(3), ZOMBIE);
        Check.due("CHILD is pending", s.pending(2), 1 << CHILD);
        s.send(2, CONT);
        Check.due("it interrupts before the wait is checked", s.waitResult(2), INTERRUPTED);
        Check.due("3 is left", s.state(3), ZOMBIE);
    }

    /** "If c does not exist any more, nothing happens." */
    private static void endOfOneThatIsGone() {
        Signalpost s = family(4);
        s.setGroup(2, 3, 3);
        s.setGroup(2, 4, 3);
        s.setAction(2, CHILD, CATCH);
        s.waitFor(2, 4, false);
        s.sendToGroup(3, KILL);
        Check.due("4 was reported at the end of 3", s.reportedChild(2), 4);
        Check.due("so its own end told nothing", s.caught(2), 1);
    }

    /** "If c is STOPPED, and its parent q is not init: ..." */
    private static void stopOfAnInitChild() {
        Signalpost s = chain(2);
        s.send(2, STOP);
        Check.due("STOPPED", s.state(2), STOPPED);
        Check.due("init gets no CHILD", s.pending(1) + s.caught(1), 0);
        Check.due("init reports nothing", s.reportedChild(1), NONE);
    }

    /** "The wait of q is checked, and the signal CHILD for q is appended." */
    private static void stopWithAnyActionOfTheParent() {
        for (int action = DEFAULT; action <= CATCH; action++) {
            Signalpost s = family(3);
            s.setAction(2, CHILD, action);
            s.waitAny(2, true);
            s.send(3, STOP);
            Check.due("the stop is reported first", s.waitResult(2), STOPPED_BY);
            Check.due("CHILD is caught then", s.caught(2), action == CATCH ? 1 : 0);
            Check.due("3 is not removed", s.state(3), STOPPED);
            s.send(3, CONT);
            s.waitAny(2, false);
            s.send(3, STOP);
            Check.due("not for stops", s.state(2), action == CATCH ? RUNNING : WAITING);
            Check.due("CHILD interrupts it", s.waitResult(2), action == CATCH ? INTERRUPTED : STOPPED_BY);
        }
    }

    // ---- To terminate a process

    private static void terminations() {
        newParents();
        zombieKeepsNothing();
        leaderAndTerminal();
        foregroundWithoutMembers();
        formerZombies();
        orphansWithoutAStop();
        orphanedByItsOwnMember();
        orphanedFromBefore();
        twoGroupsOrphaned();
        firstAndLastGroupOrphaned();
    }

    /**
     * "The nearest process among its own parent, that one's parent and so on, that is a reaper and no ZOMBIE; init,
     * if none."
     */
    private static void newParents() {
        Signalpost s = chain(6);
        s.setReaper(2, true);
        s.setReaper(3, true);
        s.setReaper(5, true);
        s.waitAny(3, false);
        s.exit(5, 0);
        Check.due("not 5 itself; the nearest, a WAITING one", s.parent(6), 3);
        s.send(3, STOP);
        s.exit(4, 0);
        Check.due("a STOPPED one", s.parent(5), 3);
        s.beginSession(2);
        s.send(3, KILL);
        Check.due("one in another session", s.parent(6), 2);
        Check.due("ZOMBIEs, too", s.parent(4), 2);
        s.send(2, KILL);
        Check.due("init, if there is none", s.parent(6), 1);

        Signalpost t = chain(5);
        t.setReaper(2, true);
        t.setReaper(2, false);
        t.setReaper(5, true);
        t.exit(3, 0);
        Check.due("neither one that is none any more nor a child", t.parent(4), 1);
    }

    /** "It is a ZOMBIE; no signal is pending for it, and it neither waits nor is stopped any more." */
    private static void zombieKeepsNothing() {
        Signalpost s = family(3);
        s.setMask(3, 511);
        s.send(3, USER);
        s.exit(3, 0);
        Check.due("nothing is pending", s.pending(3), 0);

        Signalpost t = chain(4);
        t.setReaper(2, true);
        t.waitAny(3, true);
        t.send(3, STOP);
        t.send(3, HUP);
        t.send(3, KILL);
        Check.due("a ZOMBIE, not STOPPED", t.state(3), ZOMBIE);
        Check.due("HUP is not pending", t.pending(3), 0);
        t.send(4, KILL);
        Check.due("it does not wait", t.waitResult(3), NONE);
        t.waitFor(2, 3, true);
        Check.due("its end is reported, not its stop", t.waitResult(2), KILLED);
    }

    /**
     * "If it leads its session, and this session has the terminal, the terminal is free, and HUP for each member
     * ..."
     */
    private static void leaderAndTerminal() {
        Signalpost s = family(6);
        s.beginSession(3);
        s.openTerminal(3);
        s.fork(3);
        s.fork(3);
        s.setGroup(3, 8, 8);
        s.setForeground(3, 8);
        s.beginSession(4);
        s.exit(4, 0);
        Check.due("who leads another session", s.terminalSession(), 3);
        s.exit(7, 0);
        Check.due("who does not lead it", s.terminalSession(), 3);
        Check.due("no HUP yet", s.state(8), RUNNING);
        s.setAction(8, HUP, CATCH);
        s.exit(3, 0);
        Check.due("who leads it", s.terminalSession(), NONE);
        Check.due("no foreground", s.foreground(), NONE);
        Check.due("HUP for the foreground", s.caught(8), 1);
        s.beginSession(5);
        s.openTerminal(5);
        Check.due("it can be taken anew", s.foreground(), 5);

        Signalpost t = family(3);
        t.beginSession(3);
        t.fork(3);
        t.exit(3, 0);
        Check.due("without a terminal nobody gets HUP", t.state(4), RUNNING);

        Signalpost u = family(3);
        u.beginSession(3);
        u.openTerminal(3);
        u.fork(3);
        u.setAction(4, HUP, IGNORE);
        u.fork(3);
        u.exit(3, 7);
        Check.due("4 ignores HUP", u.state(4), RUNNING);
        Check.due("5 does not", u.exists(5), false);
        u.waitFor(2, 3, false);
        Check.due("3 itself gets none, being a ZOMBIE", u.waitResult(2), EXITED);
    }

    private static void foregroundWithoutMembers() {
        Signalpost s = family(3);
        s.beginSession(3);
        s.openTerminal(3);
        s.fork(3);
        s.fork(3);
        s.setGroup(3, 4, 4);
        s.setForeground(3, 4);
        s.exit(4, 0);
        Check.due("the foreground stays", s.foreground(), 4);
        s.exit(3, 0);
        Check.due("free", s.terminalSession(), NONE);
        Check.due("nobody gets HUP", s.state(5), RUNNING);
    }

    /** "For each of its former children that is a ZOMBIE, by rising pids, the end of that child is appended." */
    private static void formerZombies() {
        Signalpost s = chain(3);
        for (int pid = 4; pid <= 6; pid++) {
            s.fork(3);
        }
        s.exit(6, 6);
        s.exit(4, 4);
        s.setReaper(2, true);
        s.setAction(2, CHILD, CATCH);
        s.exit(3, 3);
        Check.due("5 is told of no end", s.state(5), RUNNING);
        Check.due("three ends: 4, 6 and 3", s.caught(2), 3);
        Check.due("4 is a ZOMBIE of 2", s.parent(4), 2);

        Signalpost t = chain(3);
        for (int pid = 4; pid <= 6; pid++) {
            t.fork(3);
        }
        t.exit(6, 6);
        t.exit(4, 4);
        t.setReaper(2, true);
        t.setAction(2, CHILD, IGNORE);
        t.waitAny(2, false);
        t.exit(3, 3);
        Check.due("an ignoring reaper: all are removed", t.exists(3) || t.exists(4) || t.exists(6), false);
        Check.due("the end of 4 removed it, and its check reported 3, a ZOMBIE already", t.reportedChild(2), 3);
    }

    /** "... and is orphaned now and has a member that is STOPPED". */
    private static void orphansWithoutAStop() {
        Signalpost s = family(3);
        s.beginSession(3);
        s.fork(3);
        s.fork(3);
        s.setGroup(3, 4, 4);
        s.setGroup(3, 5, 4);
        s.send(5, STOP);
        s.send(5, CONT);
        s.exit(3, 0);
        Check.due("orphaned", s.isOrphaned(4), true);
        Check.due("4 lives", s.state(4), RUNNING);
        Check.due("5 lives: it is not STOPPED any more", s.state(5), RUNNING);

        Signalpost t = family(3);
        t.beginSession(3);
        t.fork(3);
        t.fork(3);
        t.setGroup(3, 4, 4);
        t.setGroup(3, 5, 4);
        t.send(5, STOP);
        t.exit(3, 0);
        Check.due("HUP for 4, which was not STOPPED", t.exists(4), false);
        Check.due("HUP for 5, which was", t.exists(5), false);

        Signalpost u = family(3);
        u.beginSession(3);
        u.fork(3);
        u.setGroup(3, 4, 4);
        u.setAction(4, HUP, CATCH);
        u.setMask(4, 1 << HUP);
        u.send(4, STOP);
        u.exit(3, 0);
        Check.due("a blocked HUP: continued alone", u.state(4), RUNNING);
        Check.due("HUP is pending", u.pending(4), 1 << HUP);
    }

    /** The group of the one that terminates: it kept its own group from being orphaned. */
    private static void orphanedByItsOwnMember() {
        Signalpost s = family(3);
        s.beginSession(3);
        s.fork(3);
        s.setGroup(3, 4, 4);
        s.fork(4);
        s.setAction(5, HUP, CATCH);
        s.send(5, STOP);
        Check.due("4 keeps the group", s.isOrphaned(4), false);
        s.exit(4, 0);
        Check.due("it is orphaned now", s.isOrphaned(4), true);
        Check.due("5 is continued", s.state(5), RUNNING);
        Check.due("5 has caught HUP", s.caught(5), 1);
    }

    /** "... that was not orphaned just before step 1". */
    private static void orphanedFromBefore() {
        Signalpost s = family(3);
        s.beginSession(3);
        s.fork(3);
        s.send(4, STOP);
        Check.due("the leader's group is orphaned", s.isOrphaned(3), true);
        s.exit(3, 0);
        Check.due("it was so before", s.isOrphaned(3), true);
        Check.due("4 stays STOPPED", s.state(4), STOPPED);
    }

    /** "For each group, by rising numbers, ..." */
    private static void twoGroupsOrphaned() {
        Signalpost s = family(3);
        s.beginSession(3);
        s.fork(3);
        s.fork(3);
        s.fork(3);
        for (int pid = 4; pid <= 6; pid++) {
            s.setGroup(3, pid, pid);
        }
        s.setAction(4, HUP, CATCH);
        s.setAction(5, HUP, CATCH);
        s.setAction(6, HUP, CATCH);
        s.send(4, STOP);
        s.send(6, STOP);
        s.exit(3, 0);
        Check.due("4", s.state(4) + 10 * s.caught(4), RUNNING + 10);
        Check.due("5, in a group without a STOPPED member", s.state(5) + 10 * s.caught(5), RUNNING);
        Check.due("6", s.state(6) + 10 * s.caught(6), RUNNING + 10);
    }

    /** The groups 1 and 40, the lowest and the highest number. */
    private static void firstAndLastGroupOrphaned() {
        Signalpost s = family(3);
        s.setGroup(2, 2, 2);
        s.setAction(3, HUP, CATCH);
        s.send(3, STOP);
        Check.due("2 keeps the group 1", s.isOrphaned(1), false);
        s.exit(2, 0);
        Check.due("init, the new parent, is in it", s.isOrphaned(1), true);
        Check.due("3 is continued", s.state(3), RUNNING);
        Check.due("3 has caught HUP", s.caught(3), 1);

        Signalpost t = family(39);
        t.beginSession(39);
        t.fork(39);
        t.setGroup(39, 40, 40);
        t.setAction(40, HUP, CATCH);
        t.send(40, STOP);
        t.exit(39, 0);
        Check.due("40 is continued", t.state(40), RUNNING);
        Check.due("40 has caught HUP", t.caught(40), 1);
    }

    // ---- Waiting

    private static void waits() {
        childrenThatAreWaitedFor();
        lowestOfAll();
        howItEnds();
        noChildAnyMore();
    }

    /** "If it has no child that it waits for, the wait ends with NO_CHILD." */
    private static void childrenThatAreWaitedFor() {
        Signalpost s = chain(4);
        s.fork(1);
        for (int child : new int[] {1, 2, 4, 5, 6, 40}) {
            Check.due("no child of 2: " + child, s.waitFor(2, child, true), true);
            Check.due("NO_CHILD", s.waitResult(2), NO_CHILD);
            Check.due("no child reported", s.reportedChild(2), NONE);
            Check.due("no value reported", s.reportedValue(2), NONE);
            Check.due("RUNNING", s.state(2), RUNNING);
        }
        Check.due("a child", s.waitFor(2, 3, true), false);
        Check.due("no child at all", s.waitAny(5, true), true);
        Check.due("NO_CHILD for 5", s.waitResult(5), NO_CHILD);
    }

    /** "... the one with the lowest pid of all these is reported". */
    private static void lowestOfAll() {
        Signalpost s = family(8);
        s.exit(8, 8);
        s.send(7, STOP);
        s.send(6, TERM);
        s.send(5, STOP);
        s.send(4, STOP);
        s.send(4, CONT);
        int[] due = {5, 6, 7, 8};
        for (int child : due) {
            Check.due("at once", s.waitAny(2, true), true);
            Check.due("the lowest", s.reportedChild(2), child);
        }
        Check.due("each stop and each ZOMBIE once", s.waitAny(2, true), false);

        Signalpost t = family(8);
        t.exit(8, 8);
        t.send(7, STOP);
        t.send(6, TERM);
        t.send(5, STOP);
        t.waitAny(2, false);
        Check.due("not for stops: 6", t.reportedChild(2), 6);
        t.waitAny(2, false);
        Check.due("not for stops: 8", t.reportedChild(2), 8);
        Check.due("a certain stop", t.waitFor(2, 7, true), true);
        Check.due("7", t.reportedChild(2), 7);
        Check.due("a certain one, not for stops", t.waitFor(2, 5, false), false);
    }

    /**
     * "The wait ends with EXITED, KILLED (a ZOMBIE, which is removed then) or STOPPED_BY (its stop has been
     * reported then)."
     */
    private static void howItEnds() {
        Signalpost s = family(3);
        s.send(3, STOP);
        s.waitFor(2, 3, true);
        Check.due("STOPPED_BY", s.waitResult(2), STOPPED_BY);
        Check.due("STOP", s.reportedValue(2), STOP);
        Check.due("it is there still", s.state(3), STOPPED);
        Check.due("reported already", s.waitFor(2, 3, true), false);
        s.send(3, KILL);
        Check.due("a ZOMBIE is reported, though its stop was", s.waitResult(2), KILLED);
        Check.due("KILL", s.reportedValue(2), KILL);
        Check.due("it is removed", s.exists(3), false);
        s.fork(2);
        s.exit(3, 255);
        s.waitFor(2, 3, false);
        Check.due("EXITED", s.waitResult(2), EXITED);
        Check.due("255", s.reportedValue(2), 255);
        s.fork(2);
        s.exit(3, 0);
        s.waitFor(2, 3, false);
        Check.due("0, and not NONE", s.reportedValue(2), 0);
        s.fork(2);
        s.send(3, HUP);
        s.waitFor(2, 3, false);
        Check.due("KILLED by the signal 0", s.waitResult(2), KILLED);
        Check.due("HUP", s.reportedValue(2), HUP);
        Check.due("removed, too", s.exists(3), false);
    }

    private static void noChildAnyMore() {
        Signalpost s = family(4);
        s.setAction(2, CHILD, IGNORE);
        s.waitAny(2, true);
        s.exit(4, 0);
        Check.due("3 is left", s.state(2), WAITING);
        s.exit(3, 0);
        Check.due("nobody is left", s.waitResult(2), NO_CHILD);
        Check.due("the process is RUNNING when a wait has ended", s.state(2), RUNNING);
    }
}
