/**
 * The boundary cases of the promises 1 to 17, one test for each sentence that names some, in the document's order. Which
 * exception a refused call throws, for every pid and for arguments beyond each bound, is told by RefusalTest.
 */
public final class CallEdgesTest {
    private static final int NONE = Signalpost.NONE;
    private static final int HUP = Signalpost.HUP, INT = Signalpost.INT, KILL = Signalpost.KILL;
    private static final int TERM = Signalpost.TERM, CHILD = Signalpost.CHILD, STOP = Signalpost.STOP;
    private static final int TSTP = Signalpost.TSTP, CONT = Signalpost.CONT, USER = Signalpost.USER;
    private static final int DEFAULT = Signalpost.DEFAULT, IGNORE = Signalpost.IGNORE, CATCH = Signalpost.CATCH;
    private static final int RUNNING = Signalpost.RUNNING, WAITING = Signalpost.WAITING;
    private static final int STOPPED = Signalpost.STOPPED, ZOMBIE = Signalpost.ZOMBIE;
    private static final int EXITED = Signalpost.EXITED, INTERRUPTED = Signalpost.INTERRUPTED;
    private static final int NO_CHILD = Signalpost.NO_CHILD;
    private static final int[] SETTABLE = {HUP, INT, TERM, CHILD, TSTP, CONT, USER};
    private static final int ALL = 511;
    private static final int BLOCKABLE = ALL & ~(1 << KILL | 1 << STOP);

    public static void main(String[] args) {
        newObject();
        fork();
        exec();
        exit();
        waits();
        setAction();
        setMask();
        beginSession();
        setGroup();
        setReaper();
        openTerminal();
        setForeground();
        send();
        sendToGroup();
        type();
        hangUp();
        Check.finish();
    }

    /** Init, its child 2, and the children of 2, from 3 on. */
    private static Signalpost family(int last) {
        Signalpost s = new Signalpost();
        s.fork(1);
        for (int pid = 3; pid <= last; pid++) {
            s.fork(2);
        }
        return s;
    }

    /** As family(), but 2 leads its session, with the terminal; and 3, if there, has a group of its own. */
    private static Signalpost shell(int last) {
        Signalpost s = family(2);
        s.beginSession(2);
        s.openTerminal(2);
        for (int pid = 3; pid <= last; pid++) {
            s.fork(2);
        }
        if (last >= 3) {
            s.setGroup(2, 3, 3);
        }
        return s;
    }

    // ---- promise 1

    /** "Init alone; nobody has the terminal." */
    private static void newObject() {
        Signalpost s = new Signalpost();
        Check.due("1 processes", s.processes(), 1);
        Check.due("1 terminalSession", s.terminalSession(), NONE);
        Check.due("1 foreground", s.foreground(), NONE);
        Check.notNow("1 type", () -> s.type(false));
        Check.notNow("1 hangUp", () -> s.hangUp());
        Check.due("1 reportedChild", s.reportedChild(1), NONE);
        Check.due("1 reportedValue", s.reportedValue(1), NONE);
        for (int group = 1; group <= 40; group++) {
            Check.due("1 members of " + group, s.sendToGroup(group, KILL), group == 1 ? 1 : 0);
            Check.due("1 isOrphaned " + group, s.isOrphaned(group), true);
        }
        Check.due("1 the first fork", s.fork(1), 2);
    }

    // ---- promise 2

    private static void fork() {
        forkLowestFreePid();
        forkCopiesThese();
        forkWithoutAFreePid();
        forkByEachState();
    }

    /** "Makes a child, with the lowest free pid." */
    private static void forkLowestFreePid() {
        Signalpost s = new Signalpost();
        for (int pid = 2; pid <= 40; pid++) {
            Check.due("2 the next pid", s.fork(1), pid);
        }
        for (int pid : new int[] {40, 2, 21, 39, 3}) {
            s.exit(pid, 0);
        }
        for (int pid : new int[] {2, 3, 21, 39, 40}) {
            Check.due("2 the lowest free pid", s.fork(1), pid);
        }
        Check.notNow("2 none is free", () -> s.fork(1));
    }

    /**
     * "It has the group, session, actions and mask of its parent; no signal is pending or was caught, no wait has
     * ended, and it is no reaper."
     */
    private static void forkCopiesThese() {
        Signalpost s = shell(3);
        s.setReaper(3, true);
        s.waitAny(3, false);
        for (int i = 0; i < SETTABLE.length; i++) {
            s.setAction(3, SETTABLE[i], i % 3);
        }
        s.setAction(3, INT, CATCH);
        s.send(3, INT);
        s.setMask(3, ALL);
        s.send(3, INT);
        s.send(3, HUP);
        Check.due("2 3 has caught one", s.caught(3), 1);
        Check.due("2 a wait of 3 has ended", s.waitResult(3), NO_CHILD);
        Check.due("2 fork(3)", s.fork(3), 4);
        Check.due("2 group", s.group(4), 3);
        Check.due("2 session", s.session(4), 2);
        Check.due("2 parent", s.parent(4), 3);
        Check.due("2 state", s.state(4), RUNNING);
        Check.due("2 pending", s.pending(4), 0);
        Check.due("2 caught", s.caught(4), 0);
        Check.due("2 waitResult", s.waitResult(4), NONE);
        Check.due("2 reportedChild", s.reportedChild(4), NONE);
        Check.due("2 reportedValue", s.reportedValue(4), NONE);
        Check.due("2 reaper", s.setReaper(4, false), false);
        for (int i = 0; i < SETTABLE.length; i++) {
            int due = SETTABLE[i] == INT ? CATCH : i % 3;
            Check.due("2 action of " + SETTABLE[i], s.setAction(4, SETTABLE[i], DEFAULT), due);
        }
        Check.due("2 mask", s.setMask(4, 0), BLOCKABLE);
        Check.due("2 the parent's pending", s.pending(3), 1 << INT | 1 << HUP);
        Check.due("2 the parent's mask", s.setMask(3, 0), BLOCKABLE);
        s.fork(2);
        s.exit(5, 0);
        s.waitFor(2, 5, false);
        Check.due("2 the child of one whose wait told a child", s.fork(2), 5);
        Check.due("2 has none to tell", s.reportedChild(5), NONE);
        Check.due("2 nor a value", s.reportedValue(5), NONE);
        Check.due("2 a child of init", s.parent(s.fork(1)), 1);
        Check.due("2 in its group", s.group(6), 1);
    }

    /** "IllegalStateException if ... no pid is free". */
    private static void forkWithoutAFreePid() {
        Signalpost s = family(40);
        Check.notNow("2 40 processes", () -> s.fork(2));
        Check.notNow("2 40 processes, for init", () -> s.fork(1));
        s.exit(17, 0);
        Check.notNow("2 a ZOMBIE has its pid", () -> s.fork(2));
        s.waitAny(2, false);
        Check.due("2 its pid is free", s.fork(2), 17);
        s.setGroup(2, 18, 18);
        s.setGroup(2, 19, 18);
        s.exit(18, 0);
        s.waitAny(2, false);
        Check.due("2 39 processes", s.processes(), 39);
        Check.notNow("2 but 18 is a group", () -> s.fork(2));
        Check.due("2 nothing changed", s.processes(), 39);
        s.setGroup(2, 19, 1);
        Check.due("2 18 is free", s.fork(2), 18);
    }

    /** "If it is not RUNNING". */
    private static void forkByEachState() {
        Signalpost s = family(5);
        s.fork(3);
        s.waitAny(3, false);
        s.send(4, STOP);
        s.exit(5, 0);
        for (int pid = 3; pid <= 5; pid++) {
            int p = pid;
            Check.notNow("2 not RUNNING: " + p, () -> s.fork(p));
        }
        Check.due("2 no child was made", s.processes(), 6);
        s.send(4, CONT);
        Check.due("2 continued", s.fork(4), 7);
    }

    // ---- promise 3

    /**
     * "Each action that is CATCH becomes DEFAULT; CHILD and CONT, if their actions become DEFAULT by that, are not
     * pending any more."
     */
    private static void exec() {
        Signalpost s = family(3);
        Check.due("3 none is CATCH", s.exec(3), 0);
        for (int i = 0; i < SETTABLE.length; i++) {
            s.setAction(3, SETTABLE[i], CATCH);
            Check.due("3 one is", s.exec(3), 1);
            Check.due("3 it is DEFAULT", s.setAction(3, SETTABLE[i], IGNORE), DEFAULT);
            Check.due("3 IGNORE does not count", s.exec(3), 0);
            Check.due("3 IGNORE stays", s.setAction(3, SETTABLE[i], DEFAULT), IGNORE);
        }
        s.setMask(3, ALL);
        for (int signal : SETTABLE) {
            s.setAction(3, signal, CATCH);
        }
        for (int signal : new int[] {HUP, INT, TERM, CHILD, CONT, USER}) {
            s.send(3, signal);
        }
        Check.due("3 pending before", s.pending(3), BLOCKABLE & ~(1 << TSTP));
        Check.due("3 all of them", s.exec(3), 7);
        Check.due("3 pending after", s.pending(3), 1 << HUP | 1 << INT | 1 << TERM | 1 << USER);
        Check.due("3 the mask stays", s.setMask(3, ALL), BLOCKABLE);
        s.setAction(3, CONT, CATCH);
        s.send(3, CONT);
        s.send(3, CHILD);
        Check.due("3 one more", s.exec(3), 1);
        Check.due("3 CONT is not pending", s.pending(3), 1 << HUP | 1 << INT | 1 << TERM | 1 << USER);
        s.send(3, TSTP);
        s.setAction(3, CHILD, CATCH);
        s.setAction(3, TSTP, CATCH);
        s.send(3, CHILD);
        Check.due("3 two more", s.exec(3), 2);
        Check.due("3 TSTP stays pending", s.pending(3), 1 << HUP | 1 << INT | 1 << TERM | 1 << TSTP | 1 << USER);
    }

    // ---- promise 4

    /** "code: 0 to 255". */
    private static void exit() {
        for (int code : new int[] {0, 1, 127, 128, 254, 255}) {
            Signalpost s = family(3);
            s.exit(3, code);
            Check.due("4 a ZOMBIE", s.state(3), ZOMBIE);
            s.waitAny(2, false);
            Check.due("4 EXITED", s.waitResult(2), EXITED);
            Check.due("4 code", s.reportedValue(2), code);
        }
        for (int code : new int[] {-1, 256}) {
            Signalpost s = family(3);
            Check.outOfRange("4 code " + code, () -> s.exit(3, code));
            Check.due("4 it is RUNNING still", s.state(3), RUNNING);
        }
    }

    // ---- promises 5 and 6

    private static void waits() {
        waitEndsAtOnceOrNot();
        waitForNumbers();
    }

    /** "The process is WAITING, and its wait is checked at once. Returns whether the wait has ended at once." */
    private static void waitEndsAtOnceOrNot() {
        for (boolean stops : new boolean[] {false, true}) {
            Signalpost s = family(4);
            Check.due("5 no child", s.waitAny(3, stops), true);
            Check.due("5 RUNNING", s.state(3), RUNNING);
            Check.due("5 children, but none to tell", s.waitAny(2, stops), false);
            Check.due("5 WAITING", s.state(2), WAITING);
            s.send(3, STOP);
            Check.due("5 a stop ends it, if it is for stops", s.state(2), stops ? RUNNING : WAITING);
            s.exit(4, 0);
            Check.due("5 at once", stops && s.waitAny(2, true), stops);
            Check.due("5 4 is told in any case", s.reportedChild(2), 4);
            Check.due("6 no child", s.waitFor(2, 4, stops), true);
            Check.due("6 3 is STOPPED, but told, or not waited for", s.waitFor(2, 3, stops), false);
        }
    }

    /** "child: 1 to 40". */
    private static void waitForNumbers() {
        Signalpost s = family(40);
        s.exit(40, 4);
        Check.due("6 child 40", s.waitFor(2, 40, false), true);
        Check.due("6 its code", s.reportedValue(2), 4);
        Check.due("6 child 1 is no child", s.waitFor(2, 1, false), true);
        Check.due("6 NO_CHILD", s.waitResult(2), NO_CHILD);
        Check.due("6 child 40 is none any more", s.waitFor(2, 40, false), true);
        Check.due("6 NO_CHILD again", s.waitResult(2), NO_CHILD);
        Check.outOfRange("6 child 0", () -> s.waitFor(2, 0, true));
        Check.outOfRange("6 child 41", () -> s.waitFor(2, 41, true));
        Check.due("6 it is RUNNING still", s.state(2), RUNNING);
    }

    // ---- promise 7

    /** "If it is IGNORE, or DEFAULT for CHILD or CONT, the signal is not pending any more." */
    private static void setAction() {
        for (int signal : SETTABLE) {
            for (int action = DEFAULT; action <= CATCH; action++) {
                Signalpost s = family(3);
                s.setMask(3, ALL);
                s.setAction(3, signal, CATCH);
                s.setAction(3, HUP, CATCH);
                s.send(3, signal);
                s.send(3, HUP);
                Check.due("7 the previous one", s.setAction(3, signal, action), CATCH);
                boolean isGone = action == IGNORE || action == DEFAULT && (signal == CHILD || signal == CONT);
                int others = signal == HUP ? 0 : 1 << HUP;
                Check.due("7 pending " + signal, s.pending(3), others | (isGone ? 0 : 1 << signal));
                Check.due("7 the one just set", s.setAction(3, signal, DEFAULT), action);
            }
        }
        for (int signal : new int[] {-1, KILL, STOP, 9}) {
            for (int action = DEFAULT; action <= CATCH; action++) {
                Signalpost s = family(3);
                int a = action;
                Check.outOfRange("7 signal " + signal, () -> s.setAction(3, signal, a));
            }
        }
        Signalpost t = family(3);
        Check.outOfRange("7 action -1", () -> t.setAction(3, USER, -1));
        Check.outOfRange("7 action 3", () -> t.setAction(3, USER, 3));
        Check.due("7 nothing changed", t.setAction(3, USER, IGNORE), DEFAULT);
        Check.due("7 the parent's stays", t.setAction(2, USER, IGNORE), DEFAULT);
    }

    // ---- promise 8

    private static void setMask() {
        maskBits();
        maskDelivers();
    }

    /** "signals: 0 to 511: bit s stands for the signal s; the bits of KILL and STOP are left out". */
    private static void maskBits() {
        Signalpost s = family(3);
        Check.due("8 at first", s.setMask(3, ALL), 0);
        Check.due("8 511", s.setMask(3, 1 << KILL | 1 << STOP), BLOCKABLE);
        Check.due("8 KILL and STOP alone", s.setMask(3, 1 << KILL | 1 << HUP), 0);
        Check.due("8 one of them", s.setMask(3, 1 << STOP | 1 << USER), 1 << HUP);
        Check.due("8 the other", s.setMask(3, 0), 1 << USER);
        for (int signal : SETTABLE) {
            Check.due("8 empty", s.setMask(3, 1 << signal), 0);
            Check.due("8 bit " + signal, s.setMask(3, 0), 1 << signal);
        }
        Check.outOfRange("8 -1", () -> s.setMask(3, -1));
        Check.outOfRange("8 512", () -> s.setMask(3, 512));
        Check.due("8 nothing changed", s.setMask(3, 0), 0);
    }

    /** "Sets the mask; then signals are delivered to the process." */
    private static void maskDelivers() {
        Signalpost s = family(3);
        s.setGroup(3, 3, 3);
        s.setAction(2, CHILD, CATCH);
        s.setMask(3, ALL);
        s.send(3, TSTP);
        Check.due("8 the previous mask of one that stops", s.setMask(3, 0), BLOCKABLE);
        Check.due("8 STOPPED", s.state(3), STOPPED);
        Check.due("8 its parent was told", s.caught(2), 1);
        Check.notNow("8 a STOPPED one", () -> s.setMask(3, 0));
        s.send(3, CONT);
        s.setMask(3, 1 << TERM);
        s.send(3, TERM);
        s.waitAny(2, false);
        Check.due("8 the previous mask of one that ends", s.setMask(3, 1 << INT), 1 << TERM);
        Check.due("8 removed by its parent's wait", s.exists(3), false);

        Signalpost t = new Signalpost();
        t.fork(1);
        t.setMask(2, 1 << USER);
        t.send(2, USER);
        Check.due("8 the previous mask of one that init removes", t.setMask(2, 0), 1 << USER);
        Check.due("8 removed", t.exists(2), false);
    }

    // ---- promise 9

    /** "... or a process (ZOMBIE or not) has the group with its pid as number". */
    private static void beginSession() {
        Signalpost s = family(5);
        s.setGroup(3, 3, 3);
        Check.notNow("9 it has the group itself", () -> s.beginSession(3));
        s.setGroup(2, 4, 3);
        s.setGroup(3, 3, 1);
        Check.notNow("9 another has it", () -> s.beginSession(3));
        s.exit(4, 0);
        Check.notNow("9 a ZOMBIE has it", () -> s.beginSession(3));
        Check.due("9 group", s.group(3), 1);
        Check.due("9 session", s.session(3), 1);
        s.waitFor(2, 4, false);
        s.beginSession(3);
        Check.due("9 its group", s.group(3), 3);
        Check.due("9 its session", s.session(3), 3);
        Check.due("9 the terminal is not taken by that", s.terminalSession(), NONE);
        Check.notNow("9 it leads its session", () -> s.beginSession(3));
        s.fork(3);
        s.beginSession(4);
        Check.due("9 a child in a session of its own", s.session(4), 4);
        Check.due("9 its parent stays", s.parent(4), 3);

        Signalpost t = shell(4);
        t.setForeground(2, 3);
        t.setGroup(2, 4, 3);
        t.beginSession(4);
        Check.due("9 out of the foreground group", t.type(false), 1);
        Check.due("9 it lives", t.state(4), RUNNING);
    }

    // ---- promise 10

    private static void setGroup() {
        setGroupTargets();
        setGroupGroups();
    }

    /** "target: the process itself, or a child of it that is no ZOMBIE". */
    private static void setGroupTargets() {
        Signalpost s = shell(7);
        s.fork(3);
        Check.due("10 itself", s.setGroup(3, 3, 3), 3);
        Check.due("10 a RUNNING child", s.setGroup(2, 4, 4), 2);
        s.fork(5);
        s.waitAny(5, false);
        Check.due("10 a WAITING child", s.setGroup(2, 5, 4), 2);
        Check.due("10 its child stays", s.group(9), 2);
        s.send(6, STOP);
        Check.due("10 a STOPPED child", s.setGroup(2, 6, 4), 2);
        s.exit(7, 0);
        Check.notNow("10 a ZOMBIE", () -> s.setGroup(2, 7, 4));
        Check.notNow("10 a grandchild", () -> s.setGroup(2, 8, 4));
        Check.notNow("10 the parent", () -> s.setGroup(3, 2, 2));
        Check.notNow("10 a sister", () -> s.setGroup(3, 4, 3));
        Check.notNow("10 one that leads its session", () -> s.setGroup(2, 2, 2));
        Check.noSuchProcess("10 nobody", () -> s.setGroup(2, 10, 4));

        Signalpost t = family(3);
        t.setReaper(2, true);
        t.beginSession(3);
        t.fork(3);
        Check.notNow("10 a child that leads its session", () -> t.setGroup(2, 3, 3));
        t.exit(3, 0);
        Check.due("10 4 is a child of 2", t.parent(4), 2);
        Check.notNow("10 a child in another session", () -> t.setGroup(2, 4, 4));
        Check.due("10 nothing changed", t.group(4), 3);
    }

    /**
     * "group: the pid of target, for a group of its own, or the number of a group that has a member in the session
     * of pid".
     */
    private static void setGroupGroups() {
        Signalpost s = shell(40);
        Check.due("10 group 40", s.setGroup(40, 40, 40), 2);
        Check.due("10 into 40", s.setGroup(2, 39, 40), 2);
        Check.notNow("10 group 1 is another session's", () -> s.setGroup(2, 39, 1));
        Check.notNow("10 no group at all", () -> s.setGroup(2, 39, 38));
        s.exit(40, 0);
        Check.due("10 the group of a ZOMBIE and another", s.setGroup(2, 38, 40), 2);
        s.exit(39, 0);
        Check.due("10 out of it", s.setGroup(2, 38, 3), 40);
        Check.notNow("10 ZOMBIEs alone", () -> s.setGroup(2, 38, 40));
        Check.due("10 a group of its own in any case", s.setGroup(2, 38, 38), 3);
        Check.due("10 again", s.setGroup(2, 38, 38), 38);
        s.setGroup(2, 37, 38);
        s.setGroup(2, 38, 2);
        Check.due("10 the group of its number, which another has", s.setGroup(38, 38, 38), 2);
        Check.outOfRange("10 group 0", () -> s.setGroup(2, 38, 0));
        Check.outOfRange("10 group 41", () -> s.setGroup(2, 38, 41));
        Check.due("10 nothing changed", s.group(38), 38);

        Signalpost t = family(3);
        t.setGroup(3, 3, 3);
        Check.due("10 group 1, with init as a member", t.setGroup(3, 3, 1), 3);
    }

    // ---- promise 11

    /** "Makes the process a reaper, or makes it none. Returns whether it was one." */
    private static void setReaper() {
        Signalpost s = family(3);
        s.fork(3);
        Check.due("11 none at first", s.setReaper(2, false), false);
        Check.due("11 none still", s.setReaper(2, true), false);
        Check.due("11 it is one", s.setReaper(2, true), true);
        Check.due("11 it was one", s.setReaper(2, false), true);
        Check.due("11 it is none", s.setReaper(2, true), false);
        s.exit(3, 0);
        Check.due("11 its grandchild", s.parent(4), 2);
    }

    // ---- promise 12

    /** "... does not lead its session, or a session has the terminal". */
    private static void openTerminal() {
        Signalpost s = family(4);
        s.beginSession(3);
        s.setGroup(4, 4, 4);
        Check.notNow("12 in the session of init", () -> s.openTerminal(2));
        Check.notNow("12 with a group of its own", () -> s.openTerminal(4));
        s.openTerminal(3);
        Check.due("12 its session", s.terminalSession(), 3);
        Check.due("12 its group", s.foreground(), 3);
        Check.notNow("12 its session has it", () -> s.openTerminal(3));
        s.setGroup(4, 4, 1);
        s.beginSession(4);
        Check.notNow("12 another session has it", () -> s.openTerminal(4));
        Check.due("12 nothing changed", s.terminalSession(), 3);
        s.exit(3, 0);
        s.openTerminal(4);
        Check.due("12 free again", s.terminalSession(), 4);
        Check.due("12 a new foreground", s.foreground(), 4);
    }

    // ---- promise 13

    /** "group: the number of a group that has a member in the session of pid". */
    private static void setForeground() {
        Signalpost s = shell(40);
        s.setGroup(40, 40, 40);
        Check.due("13 group 40", s.setForeground(2, 40), 2);
        Check.due("13 the same again", s.setForeground(40, 40), 40);
        Check.notNow("13 init's group", () -> s.setForeground(2, 1));
        Check.notNow("13 no member", () -> s.setForeground(2, 39));
        Check.outOfRange("13 group 0", () -> s.setForeground(2, 0));
        Check.outOfRange("13 group 41", () -> s.setForeground(2, 41));
        s.send(40, STOP);
        Check.due("13 a STOPPED member is one", s.setForeground(2, 3), 40);
        Check.due("13 it is", s.setForeground(2, 40), 3);
        s.send(40, KILL);
        Check.notNow("13 a ZOMBIE is none", () -> s.setForeground(2, 40));
        Check.due("13 but the foreground stays", s.foreground(), 40);
        s.beginSession(39);
        Check.notNow("13 another session", () -> s.setForeground(39, 39));
        Check.notNow("13 a group of another session", () -> s.setForeground(2, 39));
        s.setAction(2, HUP, IGNORE);
        s.hangUp();
        Check.notNow("13 its session does not have the terminal any more", () -> s.setForeground(2, 2));
        Check.due("13 none", s.foreground(), NONE);
    }

    // ---- promise 14

    /** "signal: 0 to 8"; a process that is init or a ZOMBIE may be sent signals, too. */
    private static void send() {
        Signalpost s = family(40);
        s.send(40, HUP);
        Check.due("14 pid 40, signal 0", s.state(40), ZOMBIE);
        s.send(40, USER);
        s.send(1, USER);
        Check.due("14 no notice", s.state(40) + s.state(1), ZOMBIE + RUNNING);
        Check.outOfRange("14 signal -1", () -> s.send(39, -1));
        Check.outOfRange("14 signal 9", () -> s.send(39, 9));
        Check.outOfRange("14 signal 9 for a ZOMBIE", () -> s.send(40, 9));
        Check.outOfRange("14 signal -1 for init", () -> s.send(1, -1));
        s.waitAny(2, false);
        Check.noSuchProcess("14 nobody", () -> s.send(40, HUP));
        Check.noSuchProcess("14 nobody before the signal", () -> s.send(40, 9));
        Check.due("14 39 lives", s.state(39), RUNNING);
    }

    // ---- promise 15

    /** "For each of its members, by rising pids, an event is appended. Returns how many members it had." */
    private static void sendToGroup() {
        Signalpost s = shell(6);
        s.setGroup(2, 4, 3);
        s.setGroup(2, 5, 3);
        s.exit(5, 5);
        Check.due("15 two members, and a ZOMBIE", s.sendToGroup(3, KILL), 2);
        Check.due("15 ZOMBIEs alone", s.sendToGroup(3, KILL), 0);
        Check.due("15 nobody has it", s.sendToGroup(40, KILL), 0);
        s.waitFor(2, 5, false);
        Check.due("15 the ZOMBIE took no notice", s.waitResult(2), EXITED);
        Check.outOfRange("15 group 0", () -> s.sendToGroup(0, CONT));
        Check.outOfRange("15 group 41", () -> s.sendToGroup(41, CONT));
        Check.outOfRange("15 signal -1", () -> s.sendToGroup(3, -1));
        Check.outOfRange("15 signal 9", () -> s.sendToGroup(3, 9));
        Check.outOfRange("15 signal 9, for no members", () -> s.sendToGroup(40, 9));

        // By rising pids: 3 ends before 4 would, and 2, which gets its own signal first, waits no more.
        Signalpost t = family(4);
        t.setGroup(2, 2, 2);
        t.setGroup(2, 3, 2);
        t.setGroup(2, 4, 2);
        t.setAction(2, INT, CATCH);
        t.waitFor(2, 4, false);
        Check.due("15 three", t.sendToGroup(2, INT), 3);
        Check.due("15 2 was first", t.waitResult(2), INTERRUPTED);
        Check.due("15 4 is a ZOMBIE", t.state(4), ZOMBIE);
    }

    // ---- promise 16

    /**
     * "For each member of the foreground group, by rising pids, the signal INT, or TSTP. Returns how many members
     * it had."
     */
    private static void type() {
        Signalpost s = shell(5);
        s.setGroup(2, 4, 3);
        s.setForeground(2, 3);
        Check.due("16 suspend", s.type(true), 2);
        Check.due("16 STOPPED", s.state(3) + s.state(4), 2 * STOPPED);
        Check.due("16 STOPPED members count", s.type(true), 2);
        Check.due("16 TSTP is pending", s.pending(3), 1 << TSTP);
        Check.due("16 interrupt", s.type(false), 2);
        Check.due("16 INT is pending", s.pending(4), 1 << INT | 1 << TSTP);
        s.sendToGroup(3, CONT);
        Check.due("16 ended", s.state(3) + s.state(4), 2 * ZOMBIE);
        Check.due("16 no member", s.type(false), 0);
        Check.due("16 no member", s.type(true), 0);
        Check.due("16 the others live", s.state(2) + s.state(5), 2 * RUNNING);
        s.setForeground(2, 2);
        Check.due("16 an orphaned group: no effect", s.type(true), 2);
        Check.due("16 RUNNING", s.state(2) + s.state(5), 2 * RUNNING);
        s.exit(2, 0);
        Check.notNow("16 no terminal", () -> s.type(false));
        Check.notNow("16 no terminal", () -> s.type(true));
    }

    // ---- promise 17

    /** "It is free then, and the signal HUP for the process that leads the session that had it is appended." */
    private static void hangUp() {
        Signalpost s = shell(4);
        s.setForeground(2, 3);
        s.send(2, STOP);
        Check.due("17 a STOPPED leader", s.hangUp(), 2);
        Check.due("17 HUP is pending", s.pending(2), 1 << HUP);
        Check.due("17 free", s.terminalSession(), NONE);
        Check.due("17 no foreground", s.foreground(), NONE);
        Check.notNow("17 twice", () -> s.hangUp());
        s.send(2, CONT);
        Check.due("17 HUP ended it, without the terminal", s.exists(2), false);
        Check.due("17 the foreground of before gets none", s.state(3), RUNNING);
        Check.due("17 nor does its group", s.state(4), RUNNING);

        Signalpost t = shell(3);
        t.setAction(2, HUP, IGNORE);
        Check.due("17 a leader that ignores it", t.hangUp(), 2);
        t.openTerminal(2);
        Check.due("17 it takes it anew", t.terminalSession(), 2);
        t.waitAny(2, false);
        Check.due("17 a WAITING leader", t.hangUp(), 2);
        Check.due("17 waits on", t.state(2), WAITING);

        Signalpost u = family(40);
        u.beginSession(40);
        u.openTerminal(40);
        Check.due("17 session 40", u.hangUp(), 40);
        Check.due("17 40 is a ZOMBIE", u.state(40), ZOMBIE);
    }
}
