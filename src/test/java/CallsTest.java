/** Promises 1 to 13: a new object and the system calls. */
public final class CallsTest {
    private static final int NONE = Signalpost.NONE;
    private static final int HUP = Signalpost.HUP, INT = Signalpost.INT, KILL = Signalpost.KILL;
    private static final int TERM = Signalpost.TERM, CHILD = Signalpost.CHILD, STOP = Signalpost.STOP;
    private static final int TSTP = Signalpost.TSTP, CONT = Signalpost.CONT, USER = Signalpost.USER;
    private static final int DEFAULT = Signalpost.DEFAULT, IGNORE = Signalpost.IGNORE, CATCH = Signalpost.CATCH;
    private static final int RUNNING = Signalpost.RUNNING, WAITING = Signalpost.WAITING;
    private static final int STOPPED = Signalpost.STOPPED, ZOMBIE = Signalpost.ZOMBIE;
    private static final int EXITED = Signalpost.EXITED, KILLED = Signalpost.KILLED;
    private static final int STOPPED_BY = Signalpost.STOPPED_BY, NO_CHILD = Signalpost.NO_CHILD;

    public static void main(String[] args) {
        newObject();
        forkCopies();
        forkTakesTheLowestFreePid();
        forkRefuses();
        exec();
        exit();
        waitAny();
        waitFor();
        setAction();
        setMask();
        beginSession();
        setGroup();
        setGroupRefuses();
        setReaper();
        openTerminal();
        setForeground();
        callersThatMayNot();
        Check.finish();
    }

    /** An object with the chain init - 2 - 3 .. up to the last pid. */
    private static Signalpost chain(int last) {
        Signalpost s = new Signalpost();
        for (int pid = 1; pid < last; pid++) {
            Check.due("fork(" + pid + ") of a chain", s.fork(pid), pid + 1);
        }
        return s;
    }

    private static void newObject() {
        Signalpost s = new Signalpost();
        Check.due("1 processes", s.processes(), 1);
        Check.due("1 exists(1)", s.exists(1), true);
        Check.due("1 state(1)", s.state(1), RUNNING);
        Check.due("1 parent(1)", s.parent(1), NONE);
        Check.due("1 group(1)", s.group(1), 1);
        Check.due("1 session(1)", s.session(1), 1);
        Check.due("1 pending(1)", s.pending(1), 0);
        Check.due("1 caught(1)", s.caught(1), 0);
        Check.due("1 terminalSession", s.terminalSession(), NONE);
        Check.due("1 foreground", s.foreground(), NONE);
        Check.due("1 waitResult(1)", s.waitResult(1), NONE);
        for (int pid = 2; pid <= 40; pid++) {
            Check.due("1 exists(" + pid + ")", s.exists(pid), false);
        }
        Signalpost other = new Signalpost();
        s.fork(1);
        Check.due("1 another object stays as it is", other.processes(), 1);
    }

    private static void forkCopies() {
        Signalpost s = chain(2);
        s.beginSession(2);
        s.setReaper(2, true);
        s.setAction(2, HUP, IGNORE);
        s.setAction(2, USER, CATCH);
        s.setMask(2, 1 << INT | 1 << TERM);
        s.send(2, INT);
        s.send(2, USER);
        s.waitAny(2, false);
        Check.due("2 the parent has caught one", s.caught(2), 1);
        Check.due("2 fork(2)", s.fork(2), 3);
        Check.due("2 state", s.state(3), RUNNING);
        Check.due("2 parent", s.parent(3), 2);
        Check.due("2 group", s.group(3), 2);
        Check.due("2 session", s.session(3), 2);
        Check.due("2 pending", s.pending(3), 0);
        Check.due("2 the parent's pending", s.pending(2), 1 << INT);
        Check.due("2 caught", s.caught(3), 0);
        Check.due("2 waitResult", s.waitResult(3), NONE);
        Check.due("2 reportedChild", s.reportedChild(3), NONE);
        Check.due("2 reportedValue", s.reportedValue(3), NONE);
        Check.due("2 action of HUP", s.setAction(3, HUP, DEFAULT), IGNORE);
        Check.due("2 action of USER", s.setAction(3, USER, DEFAULT), CATCH);
        Check.due("2 action of TERM", s.setAction(3, TERM, DEFAULT), DEFAULT);
        Check.due("2 mask", s.setMask(3, 0), 1 << INT | 1 << TERM);
        Check.due("2 reaper", s.setReaper(3, true), false);
        Check.due("2 the parent's action stays", s.setAction(2, HUP, DEFAULT), IGNORE);
    }

    private static void forkTakesTheLowestFreePid() {
        Signalpost s = new Signalpost();
        for (int pid = 2; pid <= 6; pid++) {
            s.fork(1);
        }
        s.setGroup(3, 3, 3);
        s.fork(3);
        Check.due("2 group of 7", s.group(7), 3);
        s.exit(3, 0);
        s.exit(5, 0);
        Check.due("2 3 was removed", s.exists(3), false);
        Check.due("2 3 is the group of 7, so 5 comes first", s.fork(1), 5);
        s.exit(7, 0);
        Check.due("2 3 is free now", s.fork(1), 3);
        Check.due("2 then 7", s.fork(1), 7);

        Signalpost t = chain(3);
        t.beginSession(3);
        t.fork(3);
        t.setGroup(3, 4, 4);
        t.exit(3, 0);
        t.waitAny(2, false);
        Check.due("2 3 was reported", t.exists(3), false);
        Check.due("2 3 is a session of 4", t.fork(2), 5);
        t.send(4, KILL);
        Check.due("2 3 is free again", t.fork(2), 3);

        Signalpost u = chain(3);
        u.exit(3, 0);
        Check.due("2 a ZOMBIE's pid is not free", u.fork(2), 4);

        Signalpost v = chain(4);
        v.setGroup(3, 3, 3);
        v.setGroup(3, 4, 3);
        v.fork(2);
        v.setAction(2, CHILD, DEFAULT);
        v.setReaper(2, true);
        v.exit(4, 1);
        v.setGroup(3, 3, 1);
        v.exit(3, 1);
        v.waitFor(2, 3, false);
        Check.due("2 3 is removed, and 4 is a ZOMBIE", v.exists(3) || v.state(4) != ZOMBIE, false);
        Check.due("2 3 is the group of a ZOMBIE", v.fork(2), 6);
    }

    private static void forkRefuses() {
        Signalpost s = new Signalpost();
        for (int pid = 2; pid <= 40; pid++) {
            Check.due("2 fork(1)", s.fork(1), pid);
        }
        Check.notNow("2 no pid is free", () -> s.fork(1));
        Check.due("2 processes", s.processes(), 40);
        s.exit(40, 0);
        Check.due("2 fork(1) again", s.fork(1), 40);
        for (int pid : new int[] {Integer.MIN_VALUE, -1, 0, 41, 64, 65, Integer.MAX_VALUE}) {
            Check.noSuchProcess("2 fork(" + pid + ")", () -> s.fork(pid));
        }
        Signalpost t = chain(2);
        Check.noSuchProcess("2 fork(3)", () -> t.fork(3));
        t.send(2, STOP);
        Check.notNow("2 fork of a STOPPED", () -> t.fork(2));
        Check.due("2 nothing changed", t.processes(), 2);
    }

    private static void exec() {
        Signalpost s = chain(2);
        s.setAction(2, HUP, IGNORE);
        s.setAction(2, USER, CATCH);
        s.setAction(2, CHILD, CATCH);
        s.setAction(2, CONT, CATCH);
        s.setMask(2, 511);
        s.setReaper(2, true);
        s.send(2, CHILD);
        s.send(2, CONT);
        s.send(2, USER);
        s.send(2, TERM);
        Check.due("3 pending before", s.pending(2), 1 << CHILD | 1 << CONT | 1 << USER | 1 << TERM);
        Check.due("3 exec", s.exec(2), 3);
        Check.due("3 pending after", s.pending(2), 1 << USER | 1 << TERM);
        Check.due("3 exec again", s.exec(2), 0);
        Check.due("3 IGNORE stays", s.setAction(2, HUP, DEFAULT), IGNORE);
        Check.due("3 USER", s.setAction(2, USER, DEFAULT), DEFAULT);
        Check.due("3 CHILD", s.setAction(2, CHILD, DEFAULT), DEFAULT);
        Check.due("3 CONT", s.setAction(2, CONT, DEFAULT), DEFAULT);
        Check.due("3 still a reaper", s.setReaper(2, true), true);
        Check.due("3 the mask stays, and USER kills when it is empty", s.setMask(2, 0), 511 & ~(1 << KILL | 1 << STOP));
        Check.due("3 killed", s.exists(2), false);
        Check.noSuchProcess("3 exec(2)", () -> s.exec(2));
        Check.notNow("3 exec(1)", () -> s.exec(1));
    }

    private static void exit() {
        Signalpost s = chain(3);
        s.exit(3, 255);
        Check.due("4 ZOMBIE", s.state(3), ZOMBIE);
        Check.due("4 wait", s.waitAny(2, false), true);
        Check.due("4 EXITED", s.waitResult(2), EXITED);
        Check.due("4 the code", s.reportedValue(2), 255);
        s.fork(2);
        s.exit(3, 0);
        s.waitAny(2, false);
        Check.due("4 the code 0", s.reportedValue(2), 0);
        Check.outOfRange("4 code -1", () -> s.exit(2, -1));
        Check.outOfRange("4 code 256", () -> s.exit(2, 256));
        Check.outOfRange("4 a wrong code comes before init", () -> s.exit(1, 256));
        Check.notNow("4 init", () -> s.exit(1, 0));
        Check.noSuchProcess("4 no process comes before a wrong code", () -> s.exit(3, 256));
        s.send(2, STOP);
        Check.outOfRange("4 a wrong code comes before the state", () -> s.exit(2, 999));
        Check.notNow("4 STOPPED", () -> s.exit(2, 0));
        Check.due("4 nothing changed", s.state(2), STOPPED);
    }

    private static void waitAny() {
        Signalpost s = chain(2);
        Check.due("5 no child", s.waitAny(2, true), true);
        Check.due("5 NO_CHILD", s.waitResult(2), NO_CHILD);
        Check.due("5 RUNNING", s.state(2), RUNNING);
        for (int pid = 3; pid <= 6; pid++) {
            s.fork(2);
        }
        s.setGroup(2, 2, 2);
        s.exit(6, 6);
        s.send(5, TERM);
        s.send(4, STOP);
        Check.due("5 the lowest ZOMBIE, if stops are not waited for", s.waitAny(2, false), true);
        Check.due("5 child", s.reportedChild(2), 5);
        Check.due("5 KILLED", s.waitResult(2), KILLED);
        Check.due("5 by TERM", s.reportedValue(2), TERM);
        Check.due("5 5 is removed", s.exists(5), false);
        Check.due("5 the lowest of all", s.waitAny(2, true), true);
        Check.due("5 the stopped one", s.reportedChild(2), 4);
        Check.due("5 STOPPED_BY", s.waitResult(2), STOPPED_BY);
        Check.due("5 by STOP", s.reportedValue(2), STOP);
        Check.due("5 4 stays", s.state(4), STOPPED);
        Check.due("5 a stop is told once", s.waitAny(2, true), true);
        Check.due("5 then 6", s.reportedChild(2), 6);
        Check.due("5 its code", s.reportedValue(2), 6);
        Check.due("5 nobody is left", s.waitAny(2, true), false);
        Check.due("5 WAITING", s.state(2), WAITING);
        Check.due("5 the last wait that has ended", s.reportedChild(2), 6);
        Check.notNow("5 WAITING may not wait", () -> s.waitAny(2, true));
        s.exit(3, 3);
        Check.due("5 it ends", s.state(2), RUNNING);
        Check.due("5 by 3", s.reportedChild(2), 3);
        Check.notNow("5 init", () -> s.waitAny(1, false));
        Check.noSuchProcess("5 nobody", () -> s.waitAny(7, false));
    }

    private static void waitFor() {
        Signalpost s = chain(2);
        s.fork(2);
        s.fork(2);
        s.fork(4);
        s.exit(3, 3);
        Check.due("6 the other one", s.waitFor(2, 4, false), false);
        Check.due("6 WAITING", s.state(2), WAITING);
        s.exit(5, 9);
        Check.due("6 a grandchild does not count", s.state(2), WAITING);
        s.send(4, STOP);
        Check.due("6 a stop does not count", s.state(2), WAITING);
        s.send(4, KILL);
        Check.due("6 RUNNING", s.state(2), RUNNING);
        Check.due("6 reported", s.reportedChild(2), 4);
        Check.due("6 by KILL", s.reportedValue(2), KILL);
        Check.due("6 3 is still there", s.state(3), ZOMBIE);
        Check.due("6 not there any more", s.waitFor(2, 4, false), true);
        Check.due("6 NO_CHILD", s.waitResult(2), NO_CHILD);
        Check.due("6 no child is told", s.reportedChild(2), NONE);
        Check.due("6 no value is told", s.reportedValue(2), NONE);
        Check.due("6 3", s.waitFor(2, 3, true), true);
        Check.due("6 reported 3", s.reportedChild(2), 3);
        Check.due("6 itself is no child", s.waitFor(2, 2, false), true);
        Check.due("6 NO_CHILD again", s.waitResult(2), NO_CHILD);
        Check.due("6 a number without a process", s.waitFor(2, 40, false), true);
        Check.outOfRange("6 child 0", () -> s.waitFor(2, 0, false));
        Check.outOfRange("6 child 41", () -> s.waitFor(2, 41, false));
        Check.outOfRange("6 child NONE", () -> s.waitFor(2, NONE, false));
        Check.outOfRange("6 child before init", () -> s.waitFor(1, 0, false));
        Check.notNow("6 init", () -> s.waitFor(1, 2, false));
        Check.noSuchProcess("6 pid before child", () -> s.waitFor(9, 0, false));
    }

    private static void setAction() {
        Signalpost s = chain(2);
        for (int signal : new int[] {HUP, INT, TERM, CHILD, TSTP, CONT, USER}) {
            Check.due("7 DEFAULT first", s.setAction(2, signal, IGNORE), DEFAULT);
            Check.due("7 then IGNORE", s.setAction(2, signal, CATCH), IGNORE);
            Check.due("7 then CATCH", s.setAction(2, signal, CATCH), CATCH);
        }
        s.setMask(2, 511);
        for (int signal : new int[] {HUP, INT, TERM, CHILD, CONT, TSTP, USER}) {
            s.send(2, signal);
        }
        Check.due("7 pending", s.pending(2), 511 & ~(1 << KILL | 1 << STOP | 1 << CONT));
        s.setAction(2, TERM, DEFAULT);
        s.setAction(2, TSTP, DEFAULT);
        Check.due("7 they stay pending", s.pending(2), 511 & ~(1 << KILL | 1 << STOP | 1 << CONT));
        s.setAction(2, CHILD, DEFAULT);
        s.setAction(2, USER, IGNORE);
        Check.due("7 CHILD and USER are not", s.pending(2), 1 << HUP | 1 << INT | 1 << TERM | 1 << TSTP);
        s.setAction(2, TSTP, IGNORE);
        s.send(2, CONT);
        Check.due("7 CONT is", s.pending(2), 1 << HUP | 1 << INT | 1 << TERM | 1 << CONT);
        s.setAction(2, CONT, DEFAULT);
        Check.due("7 CONT is not", s.pending(2), 1 << HUP | 1 << INT | 1 << TERM);
        for (int signal : new int[] {KILL, STOP, -1, 9, Integer.MAX_VALUE}) {
            Check.outOfRange("7 signal " + signal, () -> s.setAction(2, signal, DEFAULT));
        }
        Check.outOfRange("7 action -1", () -> s.setAction(2, HUP, -1));
        Check.outOfRange("7 action 3", () -> s.setAction(2, HUP, 3));
        Check.outOfRange("7 signal before init", () -> s.setAction(1, KILL, DEFAULT));
        Check.notNow("7 init", () -> s.setAction(1, HUP, DEFAULT));
        Check.noSuchProcess("7 pid first", () -> s.setAction(3, KILL, 7));
        s.send(2, STOP);
        Check.outOfRange("7 signal before the state", () -> s.setAction(2, STOP, DEFAULT));
        Check.notNow("7 STOPPED", () -> s.setAction(2, HUP, DEFAULT));
    }

    private static void setMask() {
        Signalpost s = chain(3);
        Check.due("8 empty at first", s.setMask(3, 511), 0);
        Check.due("8 without KILL and STOP", s.setMask(3, 511), 475);
        s.setAction(3, USER, CATCH);
        s.send(3, USER);
        s.send(3, USER);
        Check.due("8 pending", s.pending(3), 1 << USER);
        s.setMask(3, 1 << TERM);
        Check.due("8 caught once", s.caught(3), 1);
        Check.due("8 not pending", s.pending(3), 0);
        s.send(3, TERM);
        Check.due("8 blocked", s.state(3), RUNNING);
        s.setAction(2, CHILD, CATCH);
        Check.due("8 the last mask", s.setMask(3, 0), 1 << TERM);
        Check.due("8 TERM took effect", s.state(3), ZOMBIE);
        Check.due("8 its parent was told before the call returned", s.caught(2), 1);
        Check.outOfRange("8 -1", () -> s.setMask(2, -1));
        Check.outOfRange("8 512", () -> s.setMask(2, 512));
        Check.outOfRange("8 signals before init", () -> s.setMask(1, 512));
        Check.notNow("8 init", () -> s.setMask(1, 0));
        Check.notNow("8 a ZOMBIE", () -> s.setMask(3, 0));
        Check.noSuchProcess("8 pid first", () -> s.setMask(4, 512));

        Signalpost t = chain(3);
        t.setGroup(3, 3, 3);
        t.setMask(3, 1 << TSTP | 1 << HUP);
        t.send(3, TSTP);
        t.send(3, HUP);
        t.setMask(3, 1 << HUP);
        Check.due("8 TSTP stops", t.state(3), STOPPED);
        Check.due("8 HUP waits", t.pending(3), 1 << HUP);
    }

    private static void beginSession() {
        Signalpost s = chain(4);
        s.beginSession(3);
        Check.due("9 group", s.group(3), 3);
        Check.due("9 session", s.session(3), 3);
        Check.due("9 the child stays", s.session(4), 1);
        Check.due("9 the child's group stays", s.group(4), 1);
        Check.notNow("9 a leader again", () -> s.beginSession(3));
        s.setGroup(4, 4, 4);
        Check.notNow("9 its own group", () -> s.beginSession(4));
        s.setGroup(4, 4, 1);
        s.beginSession(4);
        Check.due("9 session of 4", s.session(4), 4);
        Check.notNow("9 init", () -> s.beginSession(1));
        Check.noSuchProcess("9 nobody", () -> s.beginSession(5));

        Signalpost t = chain(4);
        t.setGroup(3, 3, 3);
        t.setGroup(3, 4, 3);
        t.setGroup(3, 3, 1);
        Check.notNow("9 another process has the group", () -> t.beginSession(3));
        t.exit(4, 0);
        Check.due("9 4 is a ZOMBIE", t.state(4), ZOMBIE);
        Check.notNow("9 a ZOMBIE has the group", () -> t.beginSession(3));
        Check.due("9 nothing changed", t.session(3), 1);
        t.waitAny(3, false);
        t.beginSession(3);
        Check.due("9 now it can", t.session(3), 3);
    }

    private static void setGroup() {
        Signalpost s = chain(2);
        s.beginSession(2);
        s.fork(2);
        s.fork(2);
        s.fork(3);
        Check.due("10 a group of its own", s.setGroup(2, 3, 3), 2);
        Check.due("10 group", s.group(3), 3);
        Check.due("10 itself", s.setGroup(4, 4, 3), 2);
        Check.due("10 back", s.setGroup(4, 4, 2), 3);
        Check.due("10 into the same", s.setGroup(4, 4, 2), 2);
        Check.due("10 grandchild by its parent", s.setGroup(3, 5, 5), 2);
        Check.due("10 session stays", s.session(5), 2);
    }

    private static void setGroupRefuses() {
        Signalpost s = chain(2);
        s.beginSession(2);
        s.fork(2);
        s.fork(2);
        s.fork(3);
        s.setGroup(2, 3, 3);
        s.fork(1);
        s.setGroup(6, 6, 6);
        Check.notNow("10 a grandchild", () -> s.setGroup(2, 5, 5));
        Check.notNow("10 the parent", () -> s.setGroup(3, 2, 3));
        Check.notNow("10 a sister", () -> s.setGroup(3, 4, 3));
        Check.notNow("10 a leader itself", () -> s.setGroup(2, 2, 3));
        Check.notNow("10 a group of another session", () -> s.setGroup(2, 4, 6));
        Check.notNow("10 a group of another session, the other way", () -> s.setGroup(6, 6, 3));
        Check.notNow("10 a group without members", () -> s.setGroup(2, 4, 40));
        Check.notNow("10 the number of another process", () -> s.setGroup(2, 4, 5));
        Check.notNow("10 init", () -> s.setGroup(1, 6, 6));
        Check.notNow("10 init as the target", () -> s.setGroup(6, 1, 1));
        Check.outOfRange("10 group 0", () -> s.setGroup(2, 4, 0));
        Check.outOfRange("10 group 41", () -> s.setGroup(2, 4, 41));
        Check.outOfRange("10 group before init", () -> s.setGroup(1, 1, 0));
        Check.noSuchProcess("10 pid first", () -> s.setGroup(9, 4, 0));
        Check.noSuchProcess("10 target before group", () -> s.setGroup(2, 9, 0));
        Check.noSuchProcess("10 target 0", () -> s.setGroup(2, 0, 3));
        Check.noSuchProcess("10 target 41", () -> s.setGroup(2, 41, 3));
        s.beginSession(4);
        Check.notNow("10 a child that leads its session", () -> s.setGroup(2, 4, 4));
        s.fork(4);
        s.setReaper(2, true);
        s.setMask(4, 1 << HUP);
        s.exit(4, 0);
        Check.due("10 7 is a child of 2", s.parent(7), 2);
        Check.notNow("10 a child in another session", () -> s.setGroup(2, 7, 7));
        Check.notNow("10 a ZOMBIE", () -> s.setGroup(2, 4, 4));
        s.exit(5, 0);
        Check.notNow("10 a ZOMBIE in the session", () -> s.setGroup(3, 5, 5));
        s.exit(3, 0);
        Check.notNow("10 a group of ZOMBIEs alone", () -> s.setGroup(2, 2, 3));
        Check.due("10 nothing changed", s.group(2), 2);

        Signalpost t = chain(3);
        t.setGroup(3, 3, 3);
        t.fork(2);
        t.exit(3, 0);
        Check.notNow("10 the group of a ZOMBIE alone", () -> t.setGroup(2, 4, 3));
        t.send(4, STOP);
        Check.due("10 a STOPPED child", t.setGroup(2, 4, 4), 1);
        t.send(2, STOP);
        Check.notNow("10 STOPPED", () -> t.setGroup(2, 2, 2));
    }

    private static void setReaper() {
        Signalpost s = chain(5);
        Check.due("11 was none", s.setReaper(2, true), false);
        Check.due("11 was one", s.setReaper(2, true), true);
        s.setReaper(3, true);
        Check.due("11 3 is none again", s.setReaper(3, false), true);
        s.exit(4, 0);
        Check.due("11 the nearest reaper", s.parent(5), 2);
        s.setReaper(2, false);
        s.exit(3, 0);
        Check.due("11 4 goes to init and is removed", s.exists(4), false);
        s.exit(2, 0);
        Check.due("11 init, if there is none", s.parent(5), 1);
        Check.notNow("11 init", () -> s.setReaper(1, true));
        Check.noSuchProcess("11 nobody", () -> s.setReaper(2, true));

        Signalpost t = chain(4);
        t.setReaper(2, true);
        t.setReaper(3, true);
        t.exit(3, 0);
        Check.due("11 not the one that terminates", t.parent(4), 2);
        t.send(2, STOP);
        Check.notNow("11 STOPPED", () -> t.setReaper(2, false));
        t.fork(4);
        t.exit(4, 0);
        Check.due("11 a STOPPED reaper", t.parent(5), 2);
    }

    private static void openTerminal() {
        Signalpost s = chain(4);
        Check.notNow("12 no leader", () -> s.openTerminal(2));
        Check.due("12 nobody has it", s.terminalSession(), NONE);
        s.beginSession(2);
        s.openTerminal(2);
        Check.due("12 session", s.terminalSession(), 2);
        Check.due("12 foreground", s.foreground(), 2);
        Check.notNow("12 once", () -> s.openTerminal(2));
        s.beginSession(3);
        Check.notNow("12 taken", () -> s.openTerminal(3));
        Check.due("12 nothing changed", s.terminalSession(), 2);
        s.setAction(2, HUP, IGNORE);
        s.hangUp();
        s.openTerminal(3);
        Check.due("12 taken by 3", s.terminalSession(), 3);
        Check.due("12 its group", s.foreground(), 3);
        Check.notNow("12 init", () -> s.openTerminal(1));
        Check.noSuchProcess("12 nobody", () -> s.openTerminal(5));
        s.setAction(3, HUP, IGNORE);
        s.hangUp();
        s.send(3, STOP);
        Check.notNow("12 STOPPED", () -> s.openTerminal(3));
    }

    private static void setForeground() {
        Signalpost s = chain(2);
        s.beginSession(2);
        s.fork(2);
        s.fork(2);
        s.setGroup(2, 3, 3);
        Check.notNow("13 no terminal", () -> s.setForeground(2, 3));
        s.openTerminal(2);
        Check.due("13 previous", s.setForeground(2, 3), 2);
        Check.due("13 foreground", s.foreground(), 3);
        Check.due("13 by another of the session", s.setForeground(4, 2), 3);
        Check.notNow("13 no member", () -> s.setForeground(2, 4));
        Check.notNow("13 a group of another session", () -> s.setForeground(2, 1));
        s.fork(1);
        Check.notNow("13 a process of another session", () -> s.setForeground(5, 1));
        Check.notNow("13 a process of another session, and a group that is fine", () -> s.setForeground(5, 2));
        Check.outOfRange("13 group 0", () -> s.setForeground(2, 0));
        Check.outOfRange("13 group 41", () -> s.setForeground(2, 41));
        Check.outOfRange("13 group before init", () -> s.setForeground(1, 41));
        Check.notNow("13 init", () -> s.setForeground(1, 2));
        Check.noSuchProcess("13 pid first", () -> s.setForeground(9, 41));
        s.exit(3, 0);
        Check.notNow("13 ZOMBIEs alone", () -> s.setForeground(2, 3));
        Check.due("13 nothing changed", s.foreground(), 2);
        s.send(4, STOP);
        Check.notNow("13 STOPPED", () -> s.setForeground(4, 2));
    }

    /** Every system call of a process that waits, is stopped or is a ZOMBIE throws and changes nothing. */
    private static void callersThatMayNot() {
        Signalpost s = chain(2);
        for (int pid = 3; pid <= 5; pid++) {
            s.fork(2);
        }
        s.fork(3);
        s.waitAny(3, true);
        s.send(4, STOP);
        s.exit(5, 5);
        Check.due("WAITING", s.state(3), WAITING);
        Check.due("STOPPED", s.state(4), STOPPED);
        Check.due("ZOMBIE", s.state(5), ZOMBIE);
        for (int pid = 3; pid <= 5; pid++) {
            int p = pid;
            Check.notNow("fork " + p, () -> s.fork(p));
            Check.notNow("exec " + p, () -> s.exec(p));
            Check.notNow("exit " + p, () -> s.exit(p, 0));
            Check.notNow("waitAny " + p, () -> s.waitAny(p, false));
            Check.notNow("waitFor " + p, () -> s.waitFor(p, 6, false));
            Check.notNow("setAction " + p, () -> s.setAction(p, HUP, IGNORE));
            Check.notNow("setMask " + p, () -> s.setMask(p, 511));
            Check.notNow("beginSession " + p, () -> s.beginSession(p));
            Check.notNow("setGroup " + p, () -> s.setGroup(p, p, p));
            Check.notNow("setReaper " + p, () -> s.setReaper(p, true));
            Check.notNow("openTerminal " + p, () -> s.openTerminal(p));
            Check.notNow("setForeground " + p, () -> s.setForeground(p, 1));
            Check.due("group of " + p, s.group(p), 1);
            Check.due("session of " + p, s.session(p), 1);
        }
        Check.due("processes", s.processes(), 6);
        Check.due("3 stays WAITING", s.state(3), WAITING);
        Check.due("5 stays a ZOMBIE", s.state(5), ZOMBIE);
        Check.due("4 had not its action changed", stateAfter(s), ZOMBIE);
    }

    private static int stateAfter(Signalpost s) {
        s.send(4, CONT);
        s.send(4, HUP);
        return s.state(4);
    }
}
