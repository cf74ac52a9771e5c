import java.util.TreeSet;

/**
 * Refused calls, for every pid and for arguments just below and just above what is allowed: the exception is the first
 * one of the list that applies, and nothing has changed afterwards. What is due is written down for one family of
 * processes (see family()), so this test shares nothing with the class or the model.
 */
public final class RefusalTest {
    private static final int MIN = Integer.MIN_VALUE, MAX = Integer.MAX_VALUE;

    // 65 to 72 and 513 would be 1 to 8 and 1 for one who cuts bits off.
    private static final int[] PIDS = {
        MIN, -63, -2, -1, 0, 1, 2, 3, 4, 5, 6, 7, 8, 9, 10, 11, 12, 39, 40, 41, 42, 64, 65, 66, 67, 72, 258, MAX,
    };
    private static final int[] SIGNALS = {MIN, -32, -1, 0, 1, 2, 3, 4, 5, 6, 7, 8, 9, 10, 32, 33, MAX};
    private static final int[] ACTIONS = {MIN, -1, 0, 1, 2, 3, 256, MAX};
    private static final int[] CODES = {MIN, -256, -1, 0, 255, 256, 257, 512, MAX};
    private static final int[] MASKS = {MIN, -1, 0, 511, 512, 513, 1023, MAX};

    // The family: who exists, who may make calls, and who fits what.
    private static final String EXISTING = " 1 2 3 4 5 6 7 9 10 11 ";
    private static final String CALLERS = " 2 3 7 9 10 11 ";
    private static final String SESSION_2 = " 2 3 9 10 11 ";

    private static final TreeSet<String> ALLOWED_GROUPS = new TreeSet<>();
    private static final String NOTHING = "nothing";

    private static int refusals = 0;

    private interface Call {
        void on(Signalpost s);
    }

    private final Signalpost post;
    private final boolean terminalIsFree;
    private String what = "";

    private RefusalTest(boolean terminalIsFree) {
        this.terminalIsFree = terminalIsFree;
        post = family(terminalIsFree);
    }

    public static void main(String[] args) {
        allowGroups();
        for (int pid : PIDS) {
            callsWithPidAlone(pid);
            for (boolean free : new boolean[] {false, true}) {
                callsWithTwoNumbers(pid, free);
            }
            callsOfSetAction(pid);
            for (int target : PIDS) {
                callsOfSetGroup(pid, target);
            }
            questions(pid);
        }
        callsWithoutPid();
        noPidIsFree();
        Check.due("many calls were refused", refusals > 10000, true);
        Check.finish();
    }

    /**
     * 1 init; 2 leads the session 2 and has the terminal; its children: 3 (group 3; a reaper, with a mask, actions and a
     * pending signal), 4 (WAITING for 10), 5 (STOPPED), 6 (a ZOMBIE), 7 (leads the session 7), 9 (group 2), 8 (was
     * removed); and the children of 4: 10, in the group 3, and 11.
     */
    private static Signalpost family(boolean terminalIsFree) {
        Signalpost s = new Signalpost();
        s.fork(1);
        s.beginSession(2);
        s.setAction(2, Signalpost.HUP, Signalpost.CATCH);
        s.openTerminal(2);
        for (int pid = 3; pid <= 9; pid++) {
            s.fork(2);
        }
        s.setGroup(3, 3, 3);
        s.setReaper(3, true);
        s.setAction(3, Signalpost.USER, Signalpost.CATCH);
        s.setAction(3, Signalpost.INT, Signalpost.IGNORE);
        s.setMask(3, 1 << Signalpost.TERM | 1 << Signalpost.TSTP);
        s.send(3, Signalpost.TERM);
        s.fork(4);
        s.fork(4);
        s.exit(8, 8);
        s.waitFor(2, 8, false);
        s.setGroup(10, 10, 3);
        s.waitFor(4, 10, true);
        s.send(5, Signalpost.STOP);
        s.exit(6, 6);
        s.beginSession(7);
        s.setForeground(2, 3);
        if (terminalIsFree) {
            s.hangUp();
        }
        return s;
    }

    private static void allowGroups() {
        // A child of 2, or 2 itself, that leads no session, is no ZOMBIE and is in the session 2: 3, 4, 5 and 9.
        for (int target : new int[] {3, 4, 5, 9}) {
            allowGroups(2, target);
        }
        allowGroups(3, 3);
        allowGroups(9, 9);
        allowGroups(10, 10);
        allowGroups(11, 11);
    }

    private static void allowGroups(int pid, int target) {
        for (int group : new int[] {target, 2, 3}) {
            ALLOWED_GROUPS.add(pid + " " + target + " " + group);
        }
    }

    // ---- what is due

    private static boolean in(String numbers, int number) {
        return numbers.contains(" " + number + " ");
    }

    private static boolean within(int number, int lowest, int highest) {
        return lowest <= number && number <= highest;
    }

    /** The first exception that applies: no such process, an argument out of range, a wrong state. */
    private static String first(boolean isThere, boolean isInRange, boolean isPossible) {
        if (!isThere) {
            return "IndexOutOfBoundsException";
        }
        if (!isInRange) {
            return "IllegalArgumentException";
        }
        return isPossible ? NOTHING : "IllegalStateException";
    }

    // ---- the calls

    private static void callsWithPidAlone(int pid) {
        boolean isThere = in(EXISTING, pid);
        boolean mayCall = in(CALLERS, pid);
        one(false, "fork " + pid, first(isThere, true, mayCall || pid == 1), s -> s.fork(pid));
        one(false, "exec " + pid, first(isThere, true, mayCall), s -> s.exec(pid));
        for (boolean stops : new boolean[] {false, true}) {
            one(false, "waitAny " + pid, first(isThere, true, mayCall), s -> s.waitAny(pid, stops));
            one(false, "setReaper " + pid, first(isThere, true, mayCall), s -> s.setReaper(pid, stops));
        }
        // 2, 3 and 7 have the groups with their numbers; the others may not call.
        one(false, "beginSession " + pid, first(isThere, true, in(" 9 10 11 ", pid)), s -> s.beginSession(pid));
        one(false, "openTerminal " + pid, first(isThere, true, false), s -> s.openTerminal(pid));
        one(true, "openTerminal " + pid, first(isThere, true, in(" 2 7 ", pid)), s -> s.openTerminal(pid));
    }

    private static void callsWithTwoNumbers(int pid, boolean free) {
        RefusalTest t = new RefusalTest(free);
        boolean isThere = in(EXISTING, pid);
        boolean mayCall = in(CALLERS, pid);
        for (int code : CODES) {
            t.call("exit " + pid + " " + code, first(isThere, within(code, 0, 255), mayCall), s -> s.exit(pid, code));
        }
        for (int child : PIDS) {
            boolean isFine = within(child, 1, 40);
            t.call("waitFor " + pid + " " + child, first(isThere, isFine, mayCall), s -> s.waitFor(pid, child, true));
        }
        for (int mask : MASKS) {
            boolean isFine = within(mask, 0, 511);
            t.call("setMask " + pid + " " + mask, first(isThere, isFine, mayCall), s -> s.setMask(pid, mask));
        }
        for (int group : PIDS) {
            boolean isFine = within(group, 1, 40);
            boolean may = !free && mayCall && in(SESSION_2, pid) && in(" 2 3 ", group);
            t.call("setForeground " + pid + " " + group, first(isThere, isFine, may), s -> s.setForeground(pid, group));
        }
        for (int signal : SIGNALS) {
            t.call("send " + pid + " " + signal, first(isThere, within(signal, 0, 8), true), s -> s.send(pid, signal));
        }
        t.nothingChanged();
    }

    private static void callsOfSetAction(int pid) {
        RefusalTest t = new RefusalTest(false);
        boolean mayCall = in(CALLERS, pid);
        for (int signal : SIGNALS) {
            boolean hasAction = within(signal, 0, 8) && signal != Signalpost.KILL && signal != Signalpost.STOP;
            for (int action : ACTIONS) {
                boolean isFine = hasAction && within(action, 0, 2);
                t.call("setAction " + pid + " " + signal + " " + action, first(in(EXISTING, pid), isFine, mayCall),
                    s -> s.setAction(pid, signal, action));
            }
        }
        t.nothingChanged();
    }

    private static void callsOfSetGroup(int pid, int target) {
        RefusalTest t = new RefusalTest(false);
        boolean isThere = in(EXISTING, pid) && in(EXISTING, target);
        for (int i = -1; i <= 45; i++) {
            int group = i == 42 ? MIN : i == 43 ? MAX : i == 44 ? 66 : i == 45 ? 67 : i;
            String triple = pid + " " + target + " " + group;
            t.call("setGroup " + triple, first(isThere, within(group, 1, 40), ALLOWED_GROUPS.contains(triple)),
                s -> s.setGroup(pid, target, group));
        }
        t.nothingChanged();
    }

    private static void questions(int pid) {
        RefusalTest t = new RefusalTest(false);
        String due = first(in(EXISTING, pid), true, true);
        t.call("state " + pid, due, s -> s.state(pid));
        t.call("parent " + pid, due, s -> s.parent(pid));
        t.call("group " + pid, due, s -> s.group(pid));
        t.call("session " + pid, due, s -> s.session(pid));
        t.call("pending " + pid, due, s -> s.pending(pid));
        t.call("caught " + pid, due, s -> s.caught(pid));
        t.call("waitResult " + pid, due, s -> s.waitResult(pid));
        t.call("reportedChild " + pid, due, s -> s.reportedChild(pid));
        t.call("reportedValue " + pid, due, s -> s.reportedValue(pid));
        String inRange = first(true, within(pid, 1, 40), true);
        t.call("exists " + pid, inRange, s -> s.exists(pid));
        t.call("isOrphaned " + pid, inRange, s -> s.isOrphaned(pid));
        t.nothingChanged();
    }

    private static void callsWithoutPid() {
        for (int group : PIDS) {
            RefusalTest t = new RefusalTest(false);
            for (int signal : SIGNALS) {
                boolean isFine = within(group, 1, 40) && within(signal, 0, 8);
                t.call("sendToGroup " + group + " " + signal, first(true, isFine, true),
                    s -> s.sendToGroup(group, signal));
            }
            t.nothingChanged();
        }
        for (boolean free : new boolean[] {false, true}) {
            one(free, "type", first(true, true, !free), s -> s.type(false));
            one(free, "type", first(true, true, !free), s -> s.type(true));
            one(free, "hangUp", first(true, true, !free), s -> s.hangUp());
            one(free, "processes", NOTHING, s -> s.processes());
            one(free, "terminalSession", NOTHING, s -> s.terminalSession());
            one(free, "foreground", NOTHING, s -> s.foreground());
        }
    }

    /** Of 40 processes each one is refused a child, and of 39 too, if the last pid is the group of another. */
    private static void noPidIsFree() {
        Signalpost s = new Signalpost();
        for (int pid = 2; pid <= 40; pid++) {
            s.fork(1);
        }
        for (int pid = 1; pid <= 40; pid++) {
            int p = pid;
            Check.notNow("fork " + p + " of 40", () -> s.fork(p));
        }
        Check.noSuchProcess("fork 0 of 40", () -> s.fork(0));
        Check.noSuchProcess("fork 41 of 40", () -> s.fork(41));
        Check.due("40 processes", s.processes(), 40);
        s.send(20, Signalpost.KILL);
        Check.due("the one that was removed", s.fork(1), 20);

        Signalpost t = new Signalpost();
        t.fork(1);
        for (int pid = 3; pid <= 40; pid++) {
            t.fork(2);
        }
        t.setGroup(40, 40, 40);
        t.setGroup(2, 39, 40);
        t.exit(40, 0);
        t.waitFor(2, 40, false);
        Check.due("39 processes", t.processes(), 39);
        Check.notNow("40 is a group", () -> t.fork(2));
        Check.notNow("40 is a group, for init, too", () -> t.fork(1));
        t.exit(39, 0);
        Check.notNow("40 is the group of a ZOMBIE", () -> t.fork(2));
        t.waitFor(2, 39, false);
        Check.due("39 comes first", t.fork(2), 39);
        Check.due("then 40", t.fork(2), 40);
    }

    // ---- how a call is made

    private static void one(boolean free, String what, String due, Call call) {
        RefusalTest t = new RefusalTest(free);
        t.call(what, due, call);
        t.nothingChanged();
    }

    /** Refused calls are made on the one family of this test; those that are not, on a family of their own. */
    private void call(String name, String due, Call call) {
        boolean isAllowed = due.equals(NOTHING);
        String got = outcome(isAllowed ? family(terminalIsFree) : post, call);
        if (!got.equals(due)) {
            System.out.println(name + " threw " + got + ", due is " + due);
        }
        Check.due(name + " throws as it has to", got.equals(due), true);
        if (!isAllowed) {
            refusals++;
            what = name;
        }
    }

    private static String outcome(Signalpost s, Call call) {
        try {
            call.on(s);
        } catch (RuntimeException e) {
            return e.getClass().getSimpleName();
        }
        return NOTHING;
    }

    private void nothingChanged() {
        String before = Probe.everything(family(terminalIsFree));
        String after = Probe.everything(post);
        if (!before.equals(after)) {
            System.out.println("before " + before);
            System.out.println("after  " + after);
        }
        Check.due("nothing has changed after refused calls, the last one: " + what, after.equals(before), true);
    }
}
