/** Promises 14 to 17: what comes from outside. */
public final class OutsideTest {
    private static final int NONE = Signalpost.NONE;
    private static final int HUP = Signalpost.HUP, INT = Signalpost.INT, KILL = Signalpost.KILL;
    private static final int TERM = Signalpost.TERM, STOP = Signalpost.STOP;
    private static final int TSTP = Signalpost.TSTP, CONT = Signalpost.CONT, USER = Signalpost.USER;
    private static final int IGNORE = Signalpost.IGNORE, CATCH = Signalpost.CATCH;
    private static final int RUNNING = Signalpost.RUNNING, STOPPED = Signalpost.STOPPED, ZOMBIE = Signalpost.ZOMBIE;

    public static void main(String[] args) {
        send();
        sendRefuses();
        sendToGroup();
        sendToGroupInOrder();
        type();
        typeToReusedGroup();
        hangUp();
        hangUpKillsTheLeader();
        Check.finish();
    }

    /** Init, the leader 2 with the terminal, and its children up to the last pid, in its group. */
    private static Signalpost shell(int last) {
        Signalpost s = new Signalpost();
        s.fork(1);
        s.beginSession(2);
        s.openTerminal(2);
        for (int pid = 3; pid <= last; pid++) {
            s.fork(2);
        }
        return s;
    }

    private static void send() {
        Signalpost s = shell(10);
        int[] killers = {HUP, INT, KILL, TERM, USER};
        for (int i = 0; i < killers.length; i++) {
            s.send(3 + i, killers[i]);
            Check.due("14 signal " + killers[i], s.state(3 + i), ZOMBIE);
            s.waitAny(2, false);
            Check.due("14 it killed", s.reportedValue(2), killers[i]);
        }
        s.send(8, Signalpost.CHILD);
        s.send(8, CONT);
        Check.due("14 CHILD and CONT are ignored", s.state(8), RUNNING);
        Check.due("14 and not pending", s.pending(8), 0);
        s.send(8, STOP);
        Check.due("14 STOP", s.state(8), STOPPED);
        s.setGroup(2, 9, 9);
        s.send(9, TSTP);
        Check.due("14 TSTP", s.state(9), STOPPED);
        s.send(9, CONT);
        Check.due("14 CONT continues", s.state(9), RUNNING);
        s.setAction(10, USER, IGNORE);
        s.send(10, USER);
        Check.due("14 IGNORE", s.pending(10) + s.caught(10), 0);
        s.setAction(10, USER, CATCH);
        s.send(10, USER);
        Check.due("14 CATCH", s.caught(10), 1);
    }

    private static void sendRefuses() {
        Signalpost s = shell(3);
        for (int signal = 0; signal <= 8; signal++) {
            s.send(1, signal);
        }
        Check.due("14 init takes no notice", s.state(1), RUNNING);
        Check.due("14 nothing is pending for init", s.pending(1), 0);
        s.exit(3, 7);
        for (int signal = 0; signal <= 8; signal++) {
            s.send(3, signal);
        }
        Check.due("14 a ZOMBIE takes no notice", s.state(3), ZOMBIE);
        Check.due("14 nothing is pending for a ZOMBIE", s.pending(3), 0);
        s.waitAny(2, false);
        Check.due("14 its code stays", s.reportedValue(2), 7);
        Check.outOfRange("14 signal -1", () -> s.send(2, -1));
        Check.outOfRange("14 signal 9", () -> s.send(2, 9));
        Check.outOfRange("14 signal 10", () -> s.send(2, 10));
        Check.outOfRange("14 signal 9 for init", () -> s.send(1, 9));
        Check.noSuchProcess("14 pid first", () -> s.send(3, 9));
        Check.noSuchProcess("14 pid 0", () -> s.send(0, HUP));
        Check.noSuchProcess("14 pid 41", () -> s.send(41, HUP));
        Check.due("14 nothing changed", s.state(2), RUNNING);
    }

    private static void sendToGroup() {
        Signalpost s = shell(6);
        s.setGroup(2, 4, 4);
        s.setGroup(2, 5, 4);
        s.setGroup(2, 6, 4);
        s.exit(5, 0);
        Check.due("15 members without ZOMBIEs", s.sendToGroup(4, STOP), 2);
        Check.due("15 4", s.state(4), STOPPED);
        Check.due("15 6", s.state(6), STOPPED);
        Check.due("15 3 is in another group", s.state(3), RUNNING);
        Check.due("15 as many as it had", s.sendToGroup(4, KILL), 2);
        Check.due("15 nobody is left", s.sendToGroup(4, KILL), 0);
        Check.due("15 a group without processes", s.sendToGroup(40, KILL), 0);
        Check.due("15 init is a member, too", s.sendToGroup(1, KILL), 1);
        Check.due("15 init stays", s.state(1), RUNNING);
        Check.outOfRange("15 group 0", () -> s.sendToGroup(0, HUP));
        Check.outOfRange("15 group 41", () -> s.sendToGroup(41, HUP));
        Check.outOfRange("15 signal -1", () -> s.sendToGroup(2, -1));
        Check.outOfRange("15 signal 9", () -> s.sendToGroup(2, 9));
        Check.due("15 nothing changed", s.state(3), RUNNING);
    }

    private static void sendToGroupInOrder() {
        Signalpost s = new Signalpost();
        s.fork(1);
        s.fork(2);
        s.fork(3);
        s.setGroup(2, 2, 2);
        s.setGroup(3, 3, 2);
        s.setGroup(4, 4, 2);
        s.setReaper(2, true);
        s.waitAny(2, false);
        s.waitAny(3, false);
        Check.due("15 three members", s.sendToGroup(2, TERM), 3);
        // 2 ends first; 3 goes to init and ends; 4 does, too; all are removed, since init is the parent of each.
        Check.due("15 init alone is left", s.processes(), 1);

        Signalpost t = shell(4);
        t.setAction(2, USER, CATCH);
        t.waitAny(2, false);
        Check.due("15 the parent's signal comes before its children's ends", t.sendToGroup(2, USER), 3);
        Check.due("15 interrupted", t.waitResult(2), Signalpost.INTERRUPTED);
        Check.due("15 both are ZOMBIEs", t.state(3) + t.state(4), 2 * ZOMBIE);
    }

    private static void type() {
        Signalpost s = shell(5);
        Check.due("16 the previous foreground", s.setGroup(2, 4, 4), 2);
        s.setGroup(2, 5, 4);
        s.setForeground(2, 4);
        Check.due("16 the suspend key", s.type(true), 2);
        Check.due("16 4 is STOPPED", s.state(4), STOPPED);
        Check.due("16 5 is STOPPED", s.state(5), STOPPED);
        Check.due("16 3 is not", s.state(3), RUNNING);
        s.waitAny(2, true);
        Check.due("16 by TSTP", s.reportedValue(2), TSTP);
        s.sendToGroup(4, CONT);
        Check.due("16 the interrupt key", s.type(false), 2);
        Check.due("16 4 is killed", s.state(4), ZOMBIE);
        s.waitAny(2, false);
        Check.due("16 by INT", s.reportedValue(2), INT);
        Check.due("16 ZOMBIEs are no members", s.type(false), 0);
        Check.due("16 3 and 2 are not of the foreground", s.state(2) + s.state(3), RUNNING);
        Signalpost t = new Signalpost();
        Check.notNow("16 no terminal", () -> t.type(true));
        Check.notNow("16 no terminal", () -> t.type(false));
    }

    private static void typeToReusedGroup() {
        Signalpost s = shell(3);
        s.setGroup(2, 3, 3);
        s.setForeground(2, 3);
        s.exit(3, 0);
        s.waitAny(2, false);
        Check.due("16 a foreground group without members stays", s.foreground(), 3);
        Check.due("16 it has none", s.type(true), 0);
        Check.due("16 its number is free", s.fork(1), 3);
        s.setGroup(3, 3, 3);
        Check.due("16 every member of the group, whatever its session", s.type(false), 1);
        Check.due("16 it is killed", s.exists(3), false);
    }

    private static void hangUp() {
        Signalpost s = shell(3);
        s.setAction(2, HUP, CATCH);
        Check.due("17 the session", s.hangUp(), 2);
        Check.due("17 it is free", s.terminalSession(), NONE);
        Check.due("17 no foreground", s.foreground(), NONE);
        Check.due("17 the leader gets HUP", s.caught(2), 1);
        Check.due("17 the others do not", s.state(3), RUNNING);
        Check.notNow("17 not twice", () -> s.hangUp());
        s.openTerminal(2);
        Check.due("17 it can be taken again", s.terminalSession(), 2);
        Signalpost t = new Signalpost();
        Check.notNow("17 nobody has it", () -> t.hangUp());
    }

    private static void hangUpKillsTheLeader() {
        Signalpost s = shell(3);
        s.setGroup(2, 3, 3);
        s.setForeground(2, 3);
        Check.due("17 the session", s.hangUp(), 2);
        Check.due("17 the leader is removed", s.exists(2), false);
        // The terminal was free already, so the foreground group gets no HUP.
        Check.due("17 the foreground group lives", s.state(3), RUNNING);
        Check.due("17 init is its parent", s.parent(3), 1);
    }
}
