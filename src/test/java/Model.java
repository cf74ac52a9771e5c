import java.util.ArrayDeque;
import java.util.ArrayList;
import java.util.EnumSet;
import java.util.List;
import java.util.Set;
import java.util.TreeMap;
import java.util.TreeSet;

/**
 * The document again, sentence by sentence and with the Java library, for ModelTest to compare the class with.
 * It shares no code with the class, and is written after the document's own words.
 */
final class Model {
    private enum Sig { HUP, INT, KILL, TERM, CHILD, STOP, TSTP, CONT, USER }

    private enum Act { DEFAULT, IGNORE, CATCH }

    private static final class P {
        int pid;
        Integer parent;
        int group;
        int session;
        boolean isZombie;
        boolean isStopped;
        boolean waits;
        Integer waitsFor;
        boolean forStops;
        boolean reaper;
        final TreeMap<Sig, Act> actions = new TreeMap<>();
        final Set<Sig> mask = EnumSet.noneOf(Sig.class);
        final TreeSet<Sig> pending = new TreeSet<>();
        int caught;
        boolean stopReported;
        Sig stoppedBy;
        Sig killedBy;
        int exitCode;
        int result = -1;
        int reported = -1;
        int reportedValue = -1;

        String state() {
            return isZombie ? "ZOMBIE" : isStopped ? "STOPPED" : waits ? "WAITING" : "RUNNING";
        }
    }

    private final TreeMap<Integer, P> all = new TreeMap<>();
    private final ArrayDeque<Runnable> events = new ArrayDeque<>();
    private Integer terminal;
    private Integer foreground;

    Model() {
        P init = new P();
        init.pid = 1;
        init.group = 1;
        init.session = 1;
        for (Sig s : Sig.values()) {
            init.actions.put(s, Act.DEFAULT);
        }
        all.put(1, init);
    }

    // ---- the calls

    int fork(int pid) {
        P p = need(pid);
        state(p.state().equals("RUNNING"));
        for (int free = 1; free <= 40; free++) {
            if (isFree(free)) {
                P c = new P();
                c.pid = free;
                c.parent = pid;
                c.group = p.group;
                c.session = p.session;
                c.actions.putAll(p.actions);
                c.mask.addAll(p.mask);
                all.put(free, c);
                return free;
            }
        }
        throw new IllegalStateException();
    }

    int exec(int pid) {
        P p = need(pid);
        mayCall(p);
        int count = 0;
        for (Sig s : Sig.values()) {
            if (p.actions.get(s) == Act.CATCH) {
                count++;
                p.actions.put(s, Act.DEFAULT);
                if (s == Sig.CHILD || s == Sig.CONT) {
                    p.pending.remove(s);
                }
            }
        }
        return count;
    }

    void exit(int pid, int code) {
        P p = need(pid);
        argument(code >= 0 && code <= 255);
        mayCall(p);
        terminate(p, null, code);
        run();
    }

    int waitAny(int pid, boolean forStops) {
        P p = need(pid);
        mayCall(p);
        return startWait(p, null, forStops);
    }

    int waitFor(int pid, int child, boolean forStops) {
        P p = need(pid);
        argument(child >= 1 && child <= 40);
        mayCall(p);
        return startWait(p, child, forStops);
    }

    int setAction(int pid, int signal, int action) {
        P p = need(pid);
        argument(signal >= 0 && signal <= 8 && signal != 2 && signal != 5);
        argument(action >= 0 && action <= 2);
        mayCall(p);
        Sig s = Sig.values()[signal];
        Act a = Act.values()[action];
        Act previous = p.actions.put(s, a);
        if (a == Act.IGNORE || (a == Act.DEFAULT && (s == Sig.CHILD || s == Sig.CONT))) {
            p.pending.remove(s);
        }
        return previous.ordinal();
    }

    int setMask(int pid, int signals) {
        P p = need(pid);
        argument(signals >= 0 && signals <= 511);
        mayCall(p);
        int previous = bits(p.mask);
        p.mask.clear();
        for (Sig s : Sig.values()) {
            if (s != Sig.KILL && s != Sig.STOP && (signals & (1 << s.ordinal())) != 0) {
                p.mask.add(s);
            }
        }
        deliver(p);
        run();
        return previous;
    }

    void beginSession(int pid) {
        P p = need(pid);
        mayCall(p);
        for (P q : all.values()) {
            state(q.group != pid);
        }
        p.group = pid;
        p.session = pid;
    }

    int setGroup(int pid, int target, int group) {
        P p = need(pid);
        P t = need(target);
        argument(group >= 1 && group <= 40);
        mayCall(p);
        state(target == pid || (t.parent != null && t.parent == pid));
        state(!t.isZombie);
        state(t.session != t.pid);
        state(t.session == p.session);
        state(group == target || hasMemberInSession(group, p.session));
        int previous = t.group;
        t.group = group;
        return previous;
    }

    int setReaper(int pid, boolean isReaper) {
        P p = need(pid);
        mayCall(p);
        int previous = p.reaper ? 1 : 0;
        p.reaper = isReaper;
        return previous;
    }

    void openTerminal(int pid) {
        P p = need(pid);
        mayCall(p);
        state(p.session == pid);
        state(terminal == null);
        terminal = p.session;
        foreground = p.group;
    }

    int setForeground(int pid, int group) {
        P p = need(pid);
        argument(group >= 1 && group <= 40);
        mayCall(p);
        state(terminal != null && terminal == p.session);
        state(hasMemberInSession(group, p.session));
        int previous = foreground;
        foreground = group;
        return previous;
    }

    void send(int pid, int signal) {
        need(pid);
        argument(signal >= 0 && signal <= 8);
        append(Sig.values()[signal], pid);
        run();
    }

    int sendToGroup(int group, int signal) {
        argument(group >= 1 && group <= 40);
        argument(signal >= 0 && signal <= 8);
        List<Integer> members = members(group);
        appendAll(Sig.values()[signal], members);
        run();
        return members.size();
    }

    int type(boolean isSuspend) {
        state(terminal != null);
        List<Integer> members = members(foreground);
        appendAll(isSuspend ? Sig.TSTP : Sig.INT, members);
        run();
        return members.size();
    }

    int hangUp() {
        state(terminal != null);
        int held = terminal;
        terminal = null;
        foreground = null;
        for (P p : all.values()) {
            if (p.pid == p.session && p.session == held) {
                append(Sig.HUP, p.pid);
            }
        }
        run();
        return held;
    }

    int processes() {
        return all.size();
    }

    int exists(int pid) {
        argument(pid >= 1 && pid <= 40);
        return all.containsKey(pid) ? 1 : 0;
    }

    int state(int pid) {
        return List.of("RUNNING", "WAITING", "STOPPED", "ZOMBIE").indexOf(need(pid).state());
    }

    int parent(int pid) {
        P p = need(pid);
        return p.parent == null ? -1 : p.parent;
    }

    int group(int pid) {
        return need(pid).group;
    }

    int session(int pid) {
        return need(pid).session;
    }

    int pending(int pid) {
        return bits(need(pid).pending);
    }

    int caught(int pid) {
        return need(pid).caught;
    }

    int isOrphaned(int group) {
        argument(group >= 1 && group <= 40);
        return orphaned(group) ? 1 : 0;
    }

    int terminalSession() {
        return terminal == null ? -1 : terminal;
    }

    int foreground() {
        return foreground == null ? -1 : foreground;
    }

    int waitResult(int pid) {
        return need(pid).result;
    }

    int reportedChild(int pid) {
        return need(pid).reported;
    }

    int reportedValue(int pid) {
        return need(pid).reportedValue;
    }

    /** For ModelTest, to choose processes: no call of the document. */
    List<Integer> pids() {
        return new ArrayList<>(all.keySet());
    }

    // ---- what the calls require

    private P need(int pid) {
        if (!all.containsKey(pid)) {
            throw new IndexOutOfBoundsException();
        }
        return all.get(pid);
    }

    private static void argument(boolean isFine) {
        if (!isFine) {
            throw new IllegalArgumentException();
        }
    }

    private static void state(boolean isFine) {
        if (!isFine) {
            throw new IllegalStateException();
        }
    }

    private static void mayCall(P p) {
        state(p.pid != 1 && p.state().equals("RUNNING"));
    }

    // ---- the terms

    private static int bits(Set<Sig> signals) {
        int sum = 0;
        for (Sig s : signals) {
            sum += 1 << s.ordinal();
        }
        return sum;
    }

    private boolean isFree(int pid) {
        for (P p : all.values()) {
            if (p.pid == pid || p.group == pid || p.session == pid) {
                return false;
            }
        }
        return true;
    }

    private List<Integer> members(int group) {
        List<Integer> found = new ArrayList<>();
        for (P p : all.values()) {
            if (p.group == group && !p.isZombie) {
                found.add(p.pid);
            }
        }
        return found;
    }

    private boolean hasMemberInSession(int group, int session) {
        for (int m : members(group)) {
            if (all.get(m).session == session) {
                return true;
            }
        }
        return false;
    }

    private boolean orphaned(int group) {
        for (int m : members(group)) {
            P p = all.get(m);
            if (p.parent != null) {
                P q = all.get(p.parent);
                if (!q.isZombie && q.session == p.session && q.group != group) {
                    return false;
                }
            }
        }
        return true;
    }

    private List<P> children(P q) {
        List<P> found = new ArrayList<>();
        for (P p : all.values()) {
            if (p.parent != null && p.parent == q.pid) {
                found.add(p);
            }
        }
        return found;
    }

    private void append(Sig s, int pid) {
        events.addLast(() -> signalFor(s, pid));
    }

    private void appendAll(Sig s, List<Integer> pids) {
        for (int pid : pids) {
            append(s, pid);
        }
    }

    private void run() {
        while (!events.isEmpty()) {
            events.removeFirst().run();
        }
    }

    private void deliver(P p) {
        while (!p.isZombie && !p.isStopped) {
            TreeSet<Sig> ready = new TreeSet<>(p.pending);
            ready.removeAll(p.mask);
            if (ready.isEmpty()) {
                checkWait(p);
                return;
            }
            Sig s = ready.first();
            p.pending.remove(s);
            Act a = p.actions.get(s);
            if (a == Act.CATCH) {
                p.caught++;
                if (p.state().equals("WAITING")) {
                    endWait(p, 3, -1, -1);
                }
            } else if (a == Act.DEFAULT && s == Sig.TSTP) {
                if (!orphaned(p.group)) {
                    stop(p, Sig.TSTP);
                }
            } else if (a == Act.DEFAULT) {
                terminate(p, s, 0);
            }
        }
    }

    private void signalFor(Sig s, int pid) {
        P p = all.get(pid);
        if (p == null || p.isZombie || pid == 1) {
            return;
        }
        if (s == Sig.CONT) {
            p.pending.remove(Sig.TSTP);
            if (p.isStopped) {
                p.isStopped = false;
                p.stopReported = true;
            }
        }
        if (s == Sig.STOP || s == Sig.TSTP) {
            p.pending.remove(Sig.CONT);
        }
        if (s == Sig.KILL) {
            terminate(p, Sig.KILL, 0);
        } else if (s == Sig.STOP) {
            if (!p.isStopped) {
                stop(p, Sig.STOP);
            }
        } else {
            Act a = p.actions.get(s);
            if (a == Act.CATCH || (a == Act.DEFAULT && s != Sig.CHILD && s != Sig.CONT)) {
                p.pending.add(s);
            }
        }
        deliver(p);
    }

    private void endOf(int pid) {
        P c = all.get(pid);
        if (c == null) {
            return;
        }
        P q = all.get(c.parent);
        if (q.pid == 1 || q.actions.get(Sig.CHILD) == Act.IGNORE) {
            all.remove(pid);
        }
        if (q.pid != 1) {
            checkWait(q);
            append(Sig.CHILD, q.pid);
        }
    }

    private void stopOf(int pid) {
        P c = all.get(pid);
        if (c != null && c.isStopped && c.parent != 1) {
            checkWait(all.get(c.parent));
            append(Sig.CHILD, c.parent);
        }
    }

    private void stop(P p, Sig s) {
        p.isStopped = true;
        p.stopReported = false;
        p.stoppedBy = s;
        events.addLast(() -> stopOf(p.pid));
    }

    private void terminate(P p, Sig s, int code) {
        List<Integer> attached = new ArrayList<>();
        for (int g = 1; g <= 40; g++) {
            if (!orphaned(g)) {
                attached.add(g);
            }
        }
        // 1
        p.isZombie = true;
        p.killedBy = s;
        p.exitCode = code;
        p.pending.clear();
        p.waits = false;
        p.isStopped = false;
        int heir = p.parent;
        while (heir != 1 && (!all.get(heir).reaper || all.get(heir).isZombie)) {
            heir = all.get(heir).parent;
        }
        List<P> former = children(p);
        for (P c : former) {
            c.parent = heir;
        }
        // 2
        if (p.session == p.pid && terminal != null && terminal == p.session) {
            int was = foreground;
            terminal = null;
            foreground = null;
            appendAll(Sig.HUP, members(was));
        }
        // 3
        for (P c : former) {
            if (c.isZombie) {
                events.addLast(() -> endOf(c.pid));
            }
        }
        // 4
        for (int g : attached) {
            boolean hasStopped = false;
            for (int m : members(g)) {
                hasStopped |= all.get(m).isStopped;
            }
            if (orphaned(g) && hasStopped) {
                appendAll(Sig.HUP, members(g));
                appendAll(Sig.CONT, members(g));
            }
        }
        // 5
        events.addLast(() -> endOf(p.pid));
    }

    private int startWait(P p, Integer child, boolean forStops) {
        p.waits = true;
        p.waitsFor = child;
        p.forStops = forStops;
        checkWait(p);
        return p.waits ? 0 : 1;
    }

    private void checkWait(P q) {
        if (!q.state().equals("WAITING")) {
            return;
        }
        List<P> awaited = children(q);
        awaited.removeIf(c -> q.waitsFor != null && q.waitsFor != c.pid);
        if (awaited.isEmpty()) {
            endWait(q, 4, -1, -1);
            return;
        }
        awaited.removeIf(c -> !c.isZombie && !(q.forStops && c.isStopped && !c.stopReported));
        if (awaited.isEmpty()) {
            return;
        }
        P c = awaited.get(0);
        if (!c.isZombie) {
            c.stopReported = true;
            endWait(q, 2, c.pid, c.stoppedBy.ordinal());
        } else {
            all.remove(c.pid);
            endWait(q, c.killedBy == null ? 0 : 1, c.pid, c.killedBy == null ? c.exitCode : c.killedBy.ordinal());
        }
    }

    private static void endWait(P q, int result, int child, int value) {
        q.waits = false;
        q.result = result;
        q.reported = child;
        q.reportedValue = value;
    }
}
