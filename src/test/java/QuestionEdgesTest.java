/**
 * The boundary cases of the promises 18 to 31, one test for each sentence that names some, in the document's order.
 */
public final class QuestionEdgesTest {
    private static final int NONE = Signalpost.NONE;
    private static final int HUP = Signalpost.HUP, KILL = Signalpost.KILL, CHILD = Signalpost.CHILD;
    private static final int STOP = Signalpost.STOP, TSTP = Signalpost.TSTP, CONT = Signalpost.CONT;
    private static final int USER = Signalpost.USER;
    private static final int IGNORE = Signalpost.IGNORE, CATCH = Signalpost.CATCH;
    private static final int RUNNING = Signalpost.RUNNING, WAITING = Signalpost.WAITING;
    private static final int STOPPED = Signalpost.STOPPED, ZOMBIE = Signalpost.ZOMBIE;
    private static final int[] NO_PIDS = {Integer.MIN_VALUE, -1, 0, 4, 39, 40, 41, Integer.MAX_VALUE};

    public static void main(String[] args) {
        processes();
        exists();
        state();
        parent();
        groupAndSession();
        pending();
        caught();
        isOrphaned();
        terminalSessionAndForeground();
        lastWait();
        lastWaitOfAZombie();
        questionsChangeNothing();
        Check.finish();
    }

    /** Init, its child 2, and the children of 2, from 3 on. */
    private static Signalpost family(int last) {
        Signalpost s = new Signalpost();
        s.fork(1);
        for (int pid = 3; pid <= last; pid++) {
            s.fork(2);
        }
        return s;
    }

    /** "How many processes there are, with init and ZOMBIEs." */
    private static void processes() {
        Signalpost s = new Signalpost();
        Check.due("18 init alone", s.processes(), 1);
        for (int pid = 2; pid <= 40; pid++) {
            s.fork(1);
            Check.due("18 one more", s.processes(), pid);
        }
        Signalpost t = family(40);
        for (int pid = 3; pid <= 40; pid++) {
            t.exit(pid, 0);
            Check.due("18 with ZOMBIEs", t.processes(), 40);
        }
        t.exit(2, 0);
        Check.due("18 init removes them all", t.processes(), 1);
    }

    /** "pid: 1 to 40". */
    private static void exists() {
        Signalpost s = family(40);
        for (int pid = 1; pid <= 40; pid++) {
            Check.due("19 all of them", s.exists(pid), true);
        }
        Check.outOfRange("19 0", () -> s.exists(0));
        Check.outOfRange("19 41", () -> s.exists(41));
        s.exit(40, 0);
        Check.due("19 a ZOMBIE", s.exists(40), true);
        s.waitAny(2, false);
        Check.due("19 removed", s.exists(40), false);
    }

    /** "RUNNING, WAITING, STOPPED or ZOMBIE." */
    private static void state() {
        Signalpost s = family(3);
        Check.due("20 init", s.state(1), RUNNING);
        Check.due("20 RUNNING", s.state(2), RUNNING);
        s.waitAny(2, false);
        Check.due("20 WAITING", s.state(2), WAITING);
        s.send(3, STOP);
        Check.due("20 STOPPED", s.state(3), STOPPED);
        s.send(2, STOP);
        Check.due("20 STOPPED while WAITING", s.state(2), STOPPED);
        s.send(3, KILL);
        Check.due("20 ZOMBIE", s.state(3), ZOMBIE);
        for (int pid : NO_PIDS) {
            Check.noSuchProcess("20 " + pid, () -> s.state(pid));
        }
    }

    /** "The parent of a process; NONE for init." */
    private static void parent() {
        Signalpost s = family(3);
        Check.due("21 init", s.parent(1), NONE);
        Check.due("21 a child of init", s.parent(2), 1);
        Check.due("21 another", s.parent(3), 2);
        s.exit(3, 0);
        Check.due("21 a ZOMBIE", s.parent(3), 2);
        for (int pid : NO_PIDS) {
            Check.noSuchProcess("21 " + pid, () -> s.parent(pid));
        }
    }

    private static void groupAndSession() {
        Signalpost s = family(3);
        Check.due("22 init", s.group(1), 1);
        Check.due("23 init", s.session(1), 1);
        s.beginSession(2);
        Check.due("22 the child stays", s.group(3), 1);
        Check.due("23 the child stays", s.session(3), 1);
        s.setGroup(3, 3, 3);
        s.exit(3, 0);
        Check.due("22 a ZOMBIE", s.group(3), 3);
        Check.due("23 a ZOMBIE", s.session(3), 1);
        for (int pid : NO_PIDS) {
            Check.noSuchProcess("22 " + pid, () -> s.group(pid));
            Check.noSuchProcess("23 " + pid, () -> s.session(pid));
        }
    }

    /** "Bit s stands for the signal s." */
    private static void pending() {
        Signalpost s = family(3);
        s.setMask(3, 511);
        Check.due("24 none", s.pending(3), 0);
        for (int signal = HUP; signal <= USER; signal++) {
            if (signal == KILL || signal == STOP || signal == CONT) {
                continue;
            }
            Signalpost t = family(3);
            t.setAction(3, signal, CATCH);
            t.setMask(3, 511);
            t.send(3, signal);
            Check.due("24 bit " + signal, t.pending(3), 1 << signal);
        }
        for (int pid : NO_PIDS) {
            Check.noSuchProcess("24 " + pid, () -> s.pending(pid));
        }
    }

    /** "How many signals a process has caught." */
    private static void caught() {
        Signalpost s = family(3);
        Check.due("25 none", s.caught(3), 0);
        s.setAction(3, USER, CATCH);
        for (int i = 1; i <= 300; i++) {
            s.send(3, USER);
        }
        Check.due("25 300", s.caught(3), 300);
        s.exec(3);
        Check.due("25 exec forgets none", s.caught(3), 300);
        s.setAction(3, USER, IGNORE);
        s.send(3, USER);
        Check.due("25 ignored", s.caught(3), 300);
        s.exit(3, 0);
        Check.due("25 a ZOMBIE", s.caught(3), 300);
        s.waitAny(2, false);
        s.fork(2);
        Check.due("25 another with its pid", s.caught(3), 0);
        for (int pid : NO_PIDS) {
            Check.noSuchProcess("25 " + pid, () -> s.caught(pid));
        }
    }

    /** "A group without members is." "group: 1 to 40". */
    private static void isOrphaned() {
        Signalpost s = family(40);
        s.setGroup(40, 40, 40);
        Check.due("26 40 is not", s.isOrphaned(40), false);
        Check.due("26 39 has no members", s.isOrphaned(39), true);
        Check.due("26 1", s.isOrphaned(1), true);
        s.exit(40, 0);
        Check.due("26 a ZOMBIE is no member", s.isOrphaned(40), true);
        s.setGroup(39, 39, 39);
        s.setGroup(2, 38, 39);
        s.exit(39, 0);
        Check.due("26 38 is a member", s.isOrphaned(39), false);
        Check.outOfRange("26 0", () -> s.isOrphaned(0));
        Check.outOfRange("26 41", () -> s.isOrphaned(41));
        Check.outOfRange("26 NONE", () -> s.isOrphaned(NONE));
    }

    /** "NONE if none has", "NONE if no session has the terminal." */
    private static void terminalSessionAndForeground() {
        Signalpost s = family(3);
        s.beginSession(3);
        Check.due("27 a session, but no terminal", s.terminalSession(), NONE);
        Check.due("28 a session, but no terminal", s.foreground(), NONE);
        s.openTerminal(3);
        Check.due("27 3", s.terminalSession(), 3);
        Check.due("28 3", s.foreground(), 3);
        s.exit(3, 0);
        Check.due("27 a ZOMBIE has it no more", s.terminalSession(), NONE);
        Check.due("28 a ZOMBIE has it no more", s.foreground(), NONE);
    }

    /** "NONE if no wait has ended", "NONE if none was". */
    private static void lastWait() {
        Signalpost s = family(4);
        tells(s, 2, NONE, NONE, NONE);
        s.setAction(2, USER, CATCH);
        s.waitAny(2, true);
        tells(s, 2, NONE, NONE, NONE);
        s.send(4, STOP);
        tells(s, 2, Signalpost.STOPPED_BY, 4, STOP);
        s.waitFor(2, 4, true);
        tells(s, 2, Signalpost.STOPPED_BY, 4, STOP);
        s.send(2, USER);
        tells(s, 2, Signalpost.INTERRUPTED, NONE, NONE);
        s.exit(3, 0);
        s.waitFor(2, 3, false);
        tells(s, 2, Signalpost.EXITED, 3, 0);
        s.waitFor(2, 3, false);
        tells(s, 2, Signalpost.NO_CHILD, NONE, NONE);
        s.send(4, KILL);
        s.waitAny(2, false);
        tells(s, 2, Signalpost.KILLED, 4, KILL);
        s.fork(2);
        s.setGroup(2, 3, 3);
        s.send(3, TSTP);
        s.waitAny(2, true);
        tells(s, 2, Signalpost.STOPPED_BY, 3, TSTP);
        s.exec(2);
        tells(s, 2, Signalpost.STOPPED_BY, 3, TSTP);
        for (int pid : NO_PIDS) {
            Check.noSuchProcess("29 " + pid, () -> s.waitResult(pid));
            Check.noSuchProcess("30 " + pid, () -> s.reportedChild(pid));
            Check.noSuchProcess("31 " + pid, () -> s.reportedValue(pid));
        }
    }

    private static void lastWaitOfAZombie() {
        Signalpost s = family(3);
        s.fork(3);
        s.exit(4, 44);
        s.waitAny(3, false);
        s.fork(3);
        s.waitAny(3, false);
        s.send(3, HUP);
        Check.due("29 a ZOMBIE", s.state(3), ZOMBIE);
        tells(s, 3, Signalpost.EXITED, 4, 44);
    }

    private static void tells(Signalpost s, int pid, int result, int child, int value) {
        Check.due("29 waitResult", s.waitResult(pid), result);
        Check.due("30 reportedChild", s.reportedChild(pid), child);
        Check.due("31 reportedValue", s.reportedValue(pid), value);
    }

    private static void questionsChangeNothing() {
        Signalpost s = family(12);
        s.send(5, STOP);
        s.exit(6, 6);
        s.setMask(7, 511);
        s.send(7, CHILD);
        s.send(7, USER);
        for (int pid = 1; pid <= 12; pid++) {
            int sum = s.state(pid) + s.parent(pid) + s.group(pid) + s.session(pid) + s.pending(pid) + s.caught(pid)
                + s.waitResult(pid) + s.reportedChild(pid) + s.reportedValue(pid) + (s.isOrphaned(pid) ? 1 : 0);
            Check.due("a sum of small answers", sum < 1000, true);
        }
        Signalpost t = family(12);
        t.send(5, STOP);
        t.exit(6, 6);
        t.setMask(7, 511);
        t.send(7, CHILD);
        t.send(7, USER);
        Check.due("questions change nothing", Probe.everything(s).equals(Probe.everything(t)), true);
    }
}
