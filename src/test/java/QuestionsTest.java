/** Promises 18 to 31: the questions. */
public final class QuestionsTest {
    private static final int NONE = Signalpost.NONE;
    private static final int[] NO_PIDS = {Integer.MIN_VALUE, -2, -1, 0, 4, 40, 41, 65, Integer.MAX_VALUE};
    private static final int[] NO_NUMBERS = {Integer.MIN_VALUE, -2, -1, 0, 41, 42, 65, Integer.MAX_VALUE};

    public static void main(String[] args) {
        processesAndExists();
        state();
        parentGroupSession();
        pendingAndCaught();
        isOrphaned();
        terminal();
        waits();
        wrongPids();
        Check.finish();
    }

    private static Signalpost chain(int last) {
        Signalpost s = new Signalpost();
        for (int pid = 1; pid < last; pid++) {
            s.fork(pid);
        }
        return s;
    }

    private static void processesAndExists() {
        Signalpost s = chain(3);
        Check.due("18 three", s.processes(), 3);
        s.exit(3, 0);
        Check.due("18 with ZOMBIEs", s.processes(), 3);
        Check.due("19 a ZOMBIE exists", s.exists(3), true);
        s.waitAny(2, false);
        Check.due("18 two", s.processes(), 2);
        Check.due("19 removed", s.exists(3), false);
        Check.due("19 40", s.exists(40), false);
        Check.due("19 1", s.exists(1), true);
        for (int pid : NO_NUMBERS) {
            Check.outOfRange("19 exists(" + pid + ")", () -> s.exists(pid));
        }
    }

    private static void state() {
        Signalpost s = chain(3);
        Check.due("20 RUNNING", s.state(2), Signalpost.RUNNING);
        s.waitAny(2, false);
        Check.due("20 WAITING", s.state(2), Signalpost.WAITING);
        s.send(2, Signalpost.STOP);
        Check.due("20 STOPPED while it waits", s.state(2), Signalpost.STOPPED);
        s.send(2, Signalpost.CONT);
        Check.due("20 it waits on", s.state(2), Signalpost.WAITING);
        s.send(2, Signalpost.STOP);
        s.exit(3, 0);
        Check.due("20 ZOMBIE", s.state(3), Signalpost.ZOMBIE);
        Check.due("20 STOPPED, so its wait is not checked", s.state(2), Signalpost.STOPPED);
        s.send(2, Signalpost.CONT);
        Check.due("20 its wait is checked now", s.state(2), Signalpost.RUNNING);
        Check.due("29 EXITED", s.waitResult(2), Signalpost.EXITED);
    }

    private static void parentGroupSession() {
        Signalpost s = chain(4);
        Check.due("21 init", s.parent(1), NONE);
        Check.due("21 2", s.parent(2), 1);
        Check.due("21 4", s.parent(4), 3);
        s.setGroup(3, 4, 4);
        s.beginSession(2);
        Check.due("22 init", s.group(1), 1);
        Check.due("22 2", s.group(2), 2);
        Check.due("22 3", s.group(3), 1);
        Check.due("22 4", s.group(4), 4);
        Check.due("23 init", s.session(1), 1);
        Check.due("23 2", s.session(2), 2);
        Check.due("23 4", s.session(4), 1);
        s.exit(4, 0);
        Check.due("21 a ZOMBIE's", s.parent(4), 3);
        Check.due("22 a ZOMBIE's", s.group(4), 4);
        Check.due("23 a ZOMBIE's", s.session(4), 1);
        s.setReaper(2, true);
        s.exit(3, 0);
        Check.due("21 a ZOMBIE's new parent", s.parent(4), 2);
    }

    private static void pendingAndCaught() {
        Signalpost s = chain(3);
        s.setMask(3, 511);
        Check.due("24 none", s.pending(3), 0);
        s.send(3, Signalpost.HUP);
        s.send(3, Signalpost.USER);
        s.send(3, Signalpost.USER);
        Check.due("24 two", s.pending(3), 1 | 1 << 8);
        s.setAction(3, Signalpost.HUP, Signalpost.CATCH);
        s.setAction(3, Signalpost.USER, Signalpost.CATCH);
        Check.due("25 none", s.caught(3), 0);
        s.setMask(3, 1 << Signalpost.HUP);
        Check.due("25 one", s.caught(3), 1);
        Check.due("24 one", s.pending(3), 1);
        s.exit(3, 0);
        Check.due("24 none for a ZOMBIE", s.pending(3), 0);
        Check.due("25 a ZOMBIE's", s.caught(3), 1);

        Signalpost t = chain(3);
        t.send(3, Signalpost.STOP);
        t.send(3, Signalpost.TERM);
        t.send(3, Signalpost.TSTP);
        Check.due("24 pending while STOPPED", t.pending(3), 1 << Signalpost.TERM | 1 << Signalpost.TSTP);
        Check.due("24 still STOPPED", t.state(3), Signalpost.STOPPED);
        t.send(3, Signalpost.CONT);
        Check.due("24 TERM takes effect then", t.state(3), Signalpost.ZOMBIE);
    }

    private static void isOrphaned() {
        Signalpost s = chain(2);
        Check.due("26 init's group", s.isOrphaned(1), true);
        Check.due("26 no members", s.isOrphaned(40), true);
        s.setGroup(2, 2, 2);
        Check.due("26 init is a parent in another group", s.isOrphaned(2), false);
        s.setGroup(2, 2, 1);
        s.beginSession(2);
        Check.due("26 the parent is in another session", s.isOrphaned(2), true);
        s.fork(2);
        s.fork(3);
        s.setGroup(3, 4, 4);
        Check.due("26 a parent in another group", s.isOrphaned(4), false);
        Check.due("26 4 is not", s.isOrphaned(2), true);
        s.setGroup(2, 3, 3);
        s.setGroup(4, 4, 3);
        Check.due("26 one member is enough", s.isOrphaned(3), false);
        s.exit(3, 0);
        Check.due("26 the parent is gone", s.isOrphaned(3), true);
        for (int group : NO_NUMBERS) {
            Check.outOfRange("26 isOrphaned(" + group + ")", () -> s.isOrphaned(group));
        }

        Signalpost t = chain(3);
        t.setGroup(3, 3, 3);
        Check.due("26 not before", t.isOrphaned(3), false);
        t.exit(3, 0);
        Check.due("26 a ZOMBIE is no member", t.isOrphaned(3), true);

        Signalpost u = chain(3);
        u.setGroup(2, 2, 2);
        u.setGroup(3, 3, 1);
        Check.due("26 group 1 with a child of another group", u.isOrphaned(1), false);
    }

    private static void terminal() {
        Signalpost s = chain(3);
        Check.due("27 none", s.terminalSession(), NONE);
        Check.due("28 none", s.foreground(), NONE);
        s.beginSession(2);
        s.fork(2);
        s.setGroup(2, 4, 4);
        s.openTerminal(2);
        s.setForeground(2, 4);
        Check.due("27 2", s.terminalSession(), 2);
        Check.due("28 4", s.foreground(), 4);
        s.exit(4, 0);
        s.waitAny(2, false);
        Check.due("28 stays, though it has no members", s.foreground(), 4);
        s.exit(2, 0);
        Check.due("27 the leader is gone", s.terminalSession(), NONE);
        Check.due("28 the leader is gone", s.foreground(), NONE);
    }

    private static void waits() {
        Signalpost s = chain(3);
        s.setAction(2, Signalpost.USER, Signalpost.CATCH);
        Check.due("29 none", s.waitResult(2), NONE);
        Check.due("30 none", s.reportedChild(2), NONE);
        Check.due("31 none", s.reportedValue(2), NONE);
        s.waitAny(2, true);
        Check.due("29 none has ended", s.waitResult(2), NONE);
        s.setGroup(3, 3, 3);
        s.send(3, Signalpost.TSTP);
        Check.due("29 STOPPED_BY", s.waitResult(2), Signalpost.STOPPED_BY);
        Check.due("30 3", s.reportedChild(2), 3);
        Check.due("31 TSTP", s.reportedValue(2), Signalpost.TSTP);
        s.waitAny(2, true);
        Check.due("29 the one before stays", s.waitResult(2), Signalpost.STOPPED_BY);
        s.send(2, Signalpost.USER);
        Check.due("29 INTERRUPTED", s.waitResult(2), Signalpost.INTERRUPTED);
        Check.due("30 none", s.reportedChild(2), NONE);
        Check.due("31 none", s.reportedValue(2), NONE);
        s.send(3, Signalpost.KILL);
        s.waitFor(2, 3, true);
        Check.due("29 KILLED", s.waitResult(2), Signalpost.KILLED);
        Check.due("30 3", s.reportedChild(2), 3);
        Check.due("31 KILL", s.reportedValue(2), Signalpost.KILL);
        s.waitFor(2, 3, true);
        Check.due("29 NO_CHILD", s.waitResult(2), Signalpost.NO_CHILD);
        Check.due("30 none", s.reportedChild(2), NONE);
        Check.due("31 none", s.reportedValue(2), NONE);
        s.fork(2);
        s.exit(3, 17);
        s.waitAny(2, false);
        Check.due("29 EXITED", s.waitResult(2), Signalpost.EXITED);
        Check.due("30 3", s.reportedChild(2), 3);
        Check.due("31 17", s.reportedValue(2), 17);
        s.fork(2);
        s.fork(3);
        s.waitAny(3, false);
        s.send(3, Signalpost.TERM);
        Check.due("29 a wait that a ZOMBIE gave up has not ended", s.waitResult(3), NONE);
    }

    private static void wrongPids() {
        Signalpost s = chain(3);
        for (int pid : NO_PIDS) {
            Check.noSuchProcess("20 state(" + pid + ")", () -> s.state(pid));
            Check.noSuchProcess("21 parent(" + pid + ")", () -> s.parent(pid));
            Check.noSuchProcess("22 group(" + pid + ")", () -> s.group(pid));
            Check.noSuchProcess("23 session(" + pid + ")", () -> s.session(pid));
            Check.noSuchProcess("24 pending(" + pid + ")", () -> s.pending(pid));
            Check.noSuchProcess("25 caught(" + pid + ")", () -> s.caught(pid));
            Check.noSuchProcess("29 waitResult(" + pid + ")", () -> s.waitResult(pid));
            Check.noSuchProcess("30 reportedChild(" + pid + ")", () -> s.reportedChild(pid));
            Check.noSuchProcess("31 reportedValue(" + pid + ")", () -> s.reportedValue(pid));
        }
    }
}
