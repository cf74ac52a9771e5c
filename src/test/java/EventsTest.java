/** The document's terms: signals, events, the end of a process and waiting, as the calls show them. */
public final class EventsTest {
    private static final int NONE = Signalpost.NONE;
    private static final int HUP = Signalpost.HUP, INT = Signalpost.INT, KILL = Signalpost.KILL;
    private static final int TERM = Signalpost.TERM, CHILD = Signalpost.CHILD, STOP = Signalpost.STOP;
    private static final int TSTP = Signalpost.TSTP, CONT = Signalpost.CONT, USER = Signalpost.USER;
    private static final int DEFAULT = Signalpost.DEFAULT, IGNORE = Signalpost.IGNORE, CATCH = Signalpost.CATCH;
    private static final int RUNNING = Signalpost.RUNNING, WAITING = Signalpost.WAITING;
    private static final int STOPPED = Signalpost.STOPPED, ZOMBIE = Signalpost.ZOMBIE;
    private static final int EXITED = Signalpost.EXITED, KILLED = Signalpost.KILLED;
    private static final int STOPPED_BY = Signalpost.STOPPED_BY, INTERRUPTED = Signalpost.INTERRUPTED;
    private static final int NO_CHILD = Signalpost.NO_CHILD;

    public static void main(String[] args) {
        stopAndContCancelEachOther();
        contForgetsTheStop();
        aSecondStopIsNone();
        killEndsAStopped();
        tstpOfAnOrphan();
        lowestSignalFirst();
        deliveryEndsWithAStop();
        childEvents();
        ignoredChild();
        ignoredChildEndsAWait();
        reportedBeforeItsEnd();
        stopTellsTheParent();
        handedOverZombies();
        inheritedStopIsSeenLater();
        leaderTakesTheTerminalAlong();
        terminalOfAnotherSessionStays();
        newlyOrphanedGroup();
        hupComesBeforeCont();
        onlyGroupsWithAStoppedMember();
        onlyGroupsThatWereNotOrphaned();
        orderOfTheStepsOfAnEnd();
        manyEvents();
        Check.finish();
    }

    private static Signalpost chain(int last) {
        Signalpost s = new Signalpost();
        for (int pid = 1; pid < last; pid++) {
            s.fork(pid);
        }
        return s;
    }

    private static void stopAndContCancelEachOther() {
        Signalpost s = chain(3);
        s.setAction(3, CONT, CATCH);
        s.setAction(3, TSTP, CATCH);
        s.setMask(3, 511);
        s.send(3, CONT);
        Check.due("CONT is pending", s.pending(3), 1 << CONT);
        s.send(3, TSTP);
        Check.due("TSTP instead of CONT", s.pending(3), 1 << TSTP);
        s.send(3, CONT);
        Check.due("CONT instead of TSTP", s.pending(3), 1 << CONT);
        s.send(3, STOP);
        Check.due("STOP, and no CONT", s.pending(3), 0);
        Check.due("STOP can't be blocked", s.state(3), STOPPED);
        s.send(3, TSTP);
        s.send(3, CONT);
        Check.due("CONT continues, though blocked", s.state(3), RUNNING);
        Check.due("and is pending", s.pending(3), 1 << CONT);
        s.setAction(3, TSTP, IGNORE);
        s.send(3, TSTP);
        Check.due("an ignored TSTP cancels CONT, too", s.pending(3), 0);
    }

    private static void contForgetsTheStop() {
        Signalpost s = chain(3);
        s.send(3, STOP);
        s.send(3, CONT);
        Check.due("a stop that is over is not reported", s.waitAny(2, true), false);
        s.send(3, STOP);
        Check.due("the next one is", s.waitResult(2), STOPPED_BY);
        s.send(3, CONT);
        s.send(3, STOP);
        Check.due("and again", s.waitAny(2, true), true);
        Check.due("by STOP", s.reportedValue(2), STOP);
        s.setAction(2, CONT, IGNORE);
        s.send(2, STOP);
        s.send(2, CONT);
        Check.due("an ignored CONT continues", s.state(2), RUNNING);
    }

    private static void aSecondStopIsNone() {
        Signalpost s = chain(3);
        s.setAction(2, CHILD, CATCH);
        s.send(3, STOP);
        s.waitAny(2, true);
        s.send(3, STOP);
        Check.due("told once", s.caught(2), 1);
        Check.due("reported once", s.waitAny(2, true), false);
        s.send(3, TSTP);
        Check.due("TSTP is pending for a STOPPED", s.pending(3), 1 << TSTP);
        Check.due("and nothing is told", s.state(2), WAITING);
    }

    private static void killEndsAStopped() {
        Signalpost s = chain(3);
        s.send(3, STOP);
        s.send(3, TERM);
        Check.due("TERM waits", s.state(3), STOPPED);
        s.send(3, KILL);
        Check.due("KILL does not", s.state(3), ZOMBIE);
        Check.due("nothing is pending", s.pending(3), 0);
        s.waitAny(2, false);
        Check.due("KILLED", s.waitResult(2), KILLED);
        Check.due("by KILL", s.reportedValue(2), KILL);
    }

    private static void tstpOfAnOrphan() {
        Signalpost s = chain(3);
        s.send(3, TSTP);
        Check.due("the group 1 is orphaned", s.isOrphaned(1), true);
        Check.due("TSTP does nothing", s.state(3), RUNNING);
        Check.due("and is not pending", s.pending(3), 0);
        s.send(3, STOP);
        Check.due("STOP stops", s.state(3), STOPPED);
    }

    private static void lowestSignalFirst() {
        Signalpost s = chain(3);
        s.setMask(3, 511);
        s.send(3, USER);
        s.send(3, TERM);
        s.send(3, INT);
        s.setMask(3, 1 << INT);
        s.waitAny(2, false);
        Check.due("TERM before USER, and not INT", s.reportedValue(2), TERM);

        Signalpost t = chain(3);
        t.setAction(3, INT, CATCH);
        t.setAction(3, USER, CATCH);
        t.setMask(3, 511);
        t.send(3, USER);
        t.send(3, TERM);
        t.send(3, INT);
        t.setMask(3, 0);
        Check.due("INT was caught, USER was not", t.caught(3), 1);
        Check.due("TERM ended it", t.state(3), ZOMBIE);
    }

    private static void deliveryEndsWithAStop() {
        Signalpost s = chain(3);
        s.setGroup(3, 3, 3);
        s.setAction(3, HUP, CATCH);
        s.setAction(3, CONT, CATCH);
        s.setMask(3, 511);
        s.send(3, USER);
        s.send(3, TSTP);
        s.send(3, HUP);
        s.setMask(3, 0);
        Check.due("HUP was caught", s.caught(3), 1);
        Check.due("TSTP stopped it", s.state(3), STOPPED);
        Check.due("USER waits", s.pending(3), 1 << USER);
        s.send(3, CONT);
        Check.due("CONT was caught before USER ended it", s.caught(3), 2);
        Check.due("ended", s.state(3), ZOMBIE);
    }

    private static void childEvents() {
        Signalpost s = chain(4);
        s.setAction(2, CHILD, CATCH);
        s.send(3, STOP);
        Check.due("a stop tells the parent", s.caught(2), 1);
        s.send(3, CONT);
        Check.due("its end does not", s.caught(2), 1);
        s.waitAny(2, false);
        s.exit(3, 4);
        // The wait is checked first, so CHILD comes too late to interrupt it.
        Check.due("EXITED, not INTERRUPTED", s.waitResult(2), EXITED);
        Check.due("CHILD was caught", s.caught(2), 2);
        Check.due("the grandchild went to init", s.parent(4), 1);
        Check.due("init is not told", s.caught(1), 0);

        Signalpost t = chain(2);
        t.fork(2);
        t.fork(2);
        t.setAction(2, CHILD, CATCH);
        t.waitFor(2, 3, false);
        t.exit(4, 0);
        Check.due("the end of another child interrupts", t.waitResult(2), INTERRUPTED);
        Check.due("RUNNING", t.state(2), RUNNING);
    }

    private static void ignoredChild() {
        Signalpost s = chain(2);
        s.fork(2);
        s.fork(2);
        s.exit(3, 0);
        s.setAction(2, CHILD, IGNORE);
        Check.due("a ZOMBIE of before stays", s.state(3), ZOMBIE);
        s.exit(4, 0);
        Check.due("a new one is removed", s.exists(4), false);
        Check.due("the old one is reported", s.waitAny(2, false), true);
        Check.due("3", s.reportedChild(2), 3);
    }

    private static void ignoredChildEndsAWait() {
        Signalpost s = chain(2);
        s.fork(2);
        s.fork(2);
        s.setAction(2, CHILD, IGNORE);
        s.waitAny(2, false);
        s.exit(3, 0);
        Check.due("3 is removed", s.exists(3), false);
        Check.due("4 is still there", s.state(2), WAITING);
        s.exit(4, 0);
        Check.due("no child any more", s.waitResult(2), NO_CHILD);
        Check.due("RUNNING", s.state(2), RUNNING);
        Check.due("no child was reported", s.reportedChild(2), NONE);
    }

    private static void reportedBeforeItsEnd() {
        Signalpost s = chain(2);
        s.fork(2);
        s.fork(2);
        s.setGroup(2, 3, 3);
        s.setGroup(2, 4, 3);
        s.setAction(2, CHILD, CATCH);
        s.waitFor(2, 4, false);
        // The events: TERM for 3, TERM for 4, the end of 3, the end of 4, CHILD for 2. The first end interrupts nothing
        // at once, but its check reports 4, which is gone when its own end comes.
        Check.due("two members", s.sendToGroup(3, TERM), 2);
        Check.due("KILLED", s.waitResult(2), KILLED);
        Check.due("4", s.reportedChild(2), 4);
        Check.due("one end told alone", s.caught(2), 1);
        Check.due("3 is a ZOMBIE", s.state(3), ZOMBIE);
    }

    private static void stopTellsTheParent() {
        Signalpost s = chain(3);
        s.setGroup(3, 3, 3);
        s.waitAny(2, false);
        s.send(3, TSTP);
        Check.due("a wait that is not for stops goes on", s.state(2), WAITING);
        Check.due("no wait has ended", s.waitResult(2), NONE);
        s.send(3, KILL);
        Check.due("KILLED", s.waitResult(2), KILLED);

        Signalpost t = chain(2);
        t.fork(2);
        t.fork(2);
        t.setAction(2, CHILD, IGNORE);
        t.waitAny(2, true);
        t.send(4, STOP);
        Check.due("an ignored CHILD hides no stop", t.waitResult(2), STOPPED_BY);
        Check.due("4", t.reportedChild(2), 4);
        Check.due("4 is still there", t.state(4), STOPPED);
    }

    private static void handedOverZombies() {
        Signalpost s = chain(4);
        s.setReaper(2, true);
        s.setAction(2, CHILD, CATCH);
        s.exit(4, 44);
        Check.due("2 is not the parent", s.caught(2), 0);
        s.waitFor(2, 3, false);
        s.exit(3, 33);
        // The end of 4 comes first: it interrupts nothing before the end of 3 is told.
        Check.due("3 was reported", s.reportedChild(2), 3);
        Check.due("33", s.reportedValue(2), 33);
        Check.due("4 has a new parent", s.parent(4), 2);
        Check.due("one CHILD, since 3 was gone at its own end", s.caught(2), 1);
        s.waitAny(2, false);
        Check.due("44", s.reportedValue(2), 44);

        Signalpost t = chain(5);
        t.setReaper(3, true);
        t.setAction(3, CHILD, IGNORE);
        t.exit(5, 5);
        Check.due("5 is a ZOMBIE", t.state(5), ZOMBIE);
        t.send(4, STOP);
        t.waitAny(2, false);
        t.send(4, KILL);
        Check.due("a former child that is a ZOMBIE ends once more", t.exists(5), false);
        Check.due("4 is removed, too", t.exists(4), false);

        Signalpost u = chain(3);
        u.fork(3);
        u.fork(3);
        u.exit(4, 0);
        u.exit(5, 0);
        u.exit(3, 0);
        Check.due("init removes what it gets", u.exists(4) || u.exists(5), false);
        Check.due("but not the child of another", u.state(3), ZOMBIE);
    }

    private static void inheritedStopIsSeenLater() {
        Signalpost s = chain(4);
        s.setReaper(2, true);
        s.send(4, STOP);
        s.waitFor(2, 4, true);
        Check.due("4 is no child", s.waitResult(2), NO_CHILD);
        s.send(3, STOP);
        s.waitAny(2, true);
        s.waitAny(2, true);
        Check.due("WAITING", s.state(2), WAITING);
        s.send(3, KILL);
        Check.due("3 comes first", s.reportedChild(2), 3);
        s.waitAny(2, true);
        Check.due("the stop of 4, which was not reported", s.reportedChild(2), 4);
        Check.due("STOPPED_BY", s.waitResult(2), STOPPED_BY);

        Signalpost t = chain(4);
        t.setReaper(2, true);
        t.send(4, STOP);
        t.waitAny(3, true);
        Check.due("reported to 3", t.reportedChild(3), 4);
        t.exit(3, 0);
        t.waitFor(2, 4, true);
        Check.due("a stop is not reported to the next parent again", t.state(2), WAITING);
        t.send(2, CONT);
        Check.due("a signal that is ignored ends nothing", t.state(2), WAITING);
    }

    private static void leaderTakesTheTerminalAlong() {
        Signalpost s = chain(2);
        s.beginSession(2);
        s.openTerminal(2);
        for (int pid = 3; pid <= 6; pid++) {
            s.fork(2);
        }
        s.setGroup(2, 4, 4);
        s.setGroup(2, 5, 4);
        s.setGroup(2, 6, 6);
        s.setForeground(2, 4);
        s.setAction(5, HUP, CATCH);
        s.exit(2, 0);
        Check.due("free", s.terminalSession(), NONE);
        Check.due("no foreground", s.foreground(), NONE);
        Check.due("the foreground group gets HUP", s.exists(4), false);
        Check.due("each member", s.caught(5), 1);
        Check.due("3 does not", s.state(3), RUNNING);
        Check.due("6 does not", s.state(6), RUNNING);
        Check.due("the session stays", s.session(3), 2);

        Signalpost t = chain(3);
        t.beginSession(2);
        t.openTerminal(2);
        t.fork(2);
        t.exit(4, 0);
        Check.due("who does not lead leaves the terminal", t.terminalSession(), 2);
        t.send(2, KILL);
        Check.due("by a signal, too", t.terminalSession(), NONE);
    }

    private static void terminalOfAnotherSessionStays() {
        Signalpost s = chain(3);
        s.beginSession(2);
        s.beginSession(3);
        s.openTerminal(2);
        s.exit(3, 0);
        Check.due("the leader of another session", s.terminalSession(), 2);
        Check.due("its foreground", s.foreground(), 2);
        Check.due("no HUP", s.state(2), RUNNING);
    }

    /** Init, the leader 2, and its child 3 with a group of its own; 4 and 5 are children of 3, in the group 4. */
    private static Signalpost jobs() {
        Signalpost s = chain(2);
        s.beginSession(2);
        s.fork(2);
        s.setGroup(2, 3, 3);
        s.fork(3);
        s.fork(3);
        s.setGroup(3, 4, 4);
        s.setGroup(3, 5, 4);
        return s;
    }

    private static void newlyOrphanedGroup() {
        Signalpost s = jobs();
        s.setAction(4, HUP, CATCH);
        s.send(4, STOP);
        s.exit(3, 0);
        Check.due("orphaned", s.isOrphaned(4), true);
        Check.due("the STOPPED one is continued", s.state(4), RUNNING);
        Check.due("and caught HUP", s.caught(4), 1);
        Check.due("the other one got HUP, too", s.exists(5), false);
        Check.due("3 is a child of 2", s.state(3), ZOMBIE);
        Check.due("2 got nothing", s.state(2), RUNNING);
    }

    private static void hupComesBeforeCont() {
        Signalpost s = jobs();
        s.setAction(5, CONT, CATCH);
        s.setAction(5, HUP, CATCH);
        s.send(4, STOP);
        s.send(5, STOP);
        s.exit(3, 0);
        Check.due("4 was ended by HUP when it was continued", s.exists(4), false);
        Check.due("5 caught both", s.caught(5), 2);
        Check.due("5 was continued", s.state(5), RUNNING);

        Signalpost t = jobs();
        t.setAction(5, HUP, IGNORE);
        t.send(5, STOP);
        t.send(5, TERM);
        t.exit(3, 0);
        Check.due("what was pending takes effect", t.exists(5), false);

        Signalpost u = chain(3);
        u.setReaper(2, true);
        u.beginSession(3);
        u.fork(3);
        u.setGroup(3, 4, 4);
        u.send(4, STOP);
        u.send(4, TERM);
        u.waitFor(2, 3, false);
        u.exit(3, 0);
        u.waitFor(2, 4, false);
        Check.due("a reaper in another session keeps no group", u.reportedChild(2), 4);
        Check.due("HUP was pending before CONT came, so it took effect before TERM", u.reportedValue(2), HUP);
    }

    private static void onlyGroupsWithAStoppedMember() {
        Signalpost s = jobs();
        s.exit(3, 0);
        Check.due("orphaned", s.isOrphaned(4), true);
        Check.due("4 gets no HUP", s.state(4), RUNNING);
        Check.due("5 gets no HUP", s.state(5), RUNNING);

        Signalpost r = jobs();
        r.fork(2);
        r.setGroup(2, 6, 6);
        r.send(6, STOP);
        r.exit(3, 0);
        Check.due("a STOPPED member of another group does not count", r.state(4), RUNNING);
        Check.due("that one stays STOPPED", r.state(6), STOPPED);

        Signalpost t = jobs();
        t.send(4, STOP);
        t.exit(5, 0);
        Check.due("not orphaned", t.isOrphaned(4), false);
        Check.due("4 stays STOPPED", t.state(4), STOPPED);

        Signalpost u = jobs();
        u.setReaper(2, true);
        u.send(4, STOP);
        u.exit(3, 0);
        Check.due("the reaper keeps it from being orphaned", u.isOrphaned(4), false);
        Check.due("4 stays STOPPED, too", u.state(4), STOPPED);
    }

    private static void onlyGroupsThatWereNotOrphaned() {
        Signalpost s = jobs();
        s.exit(3, 0);
        s.fork(4);
        s.setGroup(4, 6, 4);
        s.send(5, STOP);
        s.exit(6, 0);
        Check.due("orphaned before, and after", s.isOrphaned(4), true);
        Check.due("5 stays STOPPED", s.state(5), STOPPED);
        s.exit(4, 0);
        Check.due("5 is STOPPED still", s.state(5), STOPPED);
    }

    /**
     * The reaper 2 in the session 1; its child 7, which leads its session and has the terminal; and the children of 7:
     * 3, 4 and 5, each in a group of its own. The parent has a higher pid than its children, and so is reported last.
     */
    private static Signalpost lowChildren() {
        Signalpost s = new Signalpost();
        for (int pid = 2; pid <= 6; pid++) {
            s.fork(1);
        }
        s.setReaper(2, true);
        s.fork(2);
        for (int pid = 3; pid <= 6; pid++) {
            s.exit(pid, 0);
        }
        s.beginSession(7);
        s.openTerminal(7);
        for (int pid = 3; pid <= 5; pid++) {
            Check.due("low pids", s.fork(7), pid);
            s.setGroup(7, pid, pid);
        }
        return s;
    }

    private static void orderOfTheStepsOfAnEnd() {
        Signalpost s = lowChildren();
        s.setForeground(7, 3);
        s.exit(4, 0);
        s.waitAny(2, false);
        s.exit(7, 0);
        Check.due("HUP for the foreground comes before the ends of former children", s.reportedChild(2), 3);

        Signalpost t = lowChildren();
        t.send(3, STOP);
        t.exit(4, 0);
        t.waitAny(2, false);
        t.exit(7, 0);
        Check.due("the ends of former children come before HUP for orphans", t.reportedChild(2), 4);

        Signalpost u = lowChildren();
        u.send(3, STOP);
        u.waitAny(2, false);
        u.exit(7, 0);
        Check.due("HUP and CONT for orphans come before its own end", u.reportedChild(2), 3);

        Signalpost v = lowChildren();
        v.setAction(3, HUP, CATCH);
        v.send(3, STOP);
        v.setForeground(7, 3);
        v.exit(7, 0);
        Check.due("HUP for the foreground comes before HUP and CONT for orphans", v.caught(3), 1);
        Check.due("3 was continued", v.state(3), RUNNING);

        Signalpost w = lowChildren();
        w.exit(5, 0);
        w.exit(4, 0);
        w.waitAny(2, false);
        w.exit(7, 7);
        Check.due("the lowest former child is told first", w.reportedChild(2), 4);
        Check.due("7 is left", w.state(7), ZOMBIE);
    }

    private static void manyEvents() {
        Signalpost s = chain(2);
        s.beginSession(2);
        s.setReaper(2, true);
        s.setAction(2, CHILD, CATCH);
        for (int pid = 2; pid < 40; pid++) {
            Check.due("fork(" + pid + ")", s.fork(pid), pid + 1);
        }
        Check.due("all but init", s.sendToGroup(2, STOP), 39);
        Check.due("2 is told, but STOPPED", s.pending(2), 1 << CHILD);
        Check.due("all but init are continued", s.sendToGroup(2, CONT), 39);
        Check.due("RUNNING", s.state(40), RUNNING);
        Check.due("CHILD was caught", s.caught(2) > 0, true);
        Check.due("39 members", s.sendToGroup(2, TERM), 39);
        Check.due("init alone is left", s.processes(), 1);
    }
}
