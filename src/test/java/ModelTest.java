import java.util.ArrayList;
import java.util.List;
import java.util.Random;
import java.util.function.LongSupplier;

/** Random runs of at most 512 calls, from fixed seeds, on the class and on the model: the answers have to agree. */
public final class ModelTest {
    private static final int RUNS = 6000;
    private static final int FAMILY_RUNS = 20000;
    private static final int CALLS = 512;

    private static long differences = 0;

    private final Random random;
    private final Signalpost post = new Signalpost();
    private final Model model = new Model();
    private final List<String> log = new ArrayList<>();
    private final int pids;
    private final boolean asksMuch;

    private ModelTest(int seed) {
        random = new Random(seed);
        pids = seed % 7 == 0 ? 40 : 4 + Math.abs(seed) % 11;
        asksMuch = seed % 3 != 0;
    }

    public static void main(String[] args) {
        for (int seed = 1; seed <= RUNS && differences == 0; seed++) {
            new ModelTest(seed).run();
        }
        for (int seed = 1; seed <= FAMILY_RUNS && differences == 0; seed++) {
            new ModelTest(-seed).runFamily();
        }
        Check.due("differences", differences, 0);
        Check.finish();
    }

    private void run() {
        while (log.size() < CALLS - 1 && differences == 0) {
            if (asksMuch && random.nextInt(3) != 0) {
                ask();
            } else {
                act();
            }
        }
    }

    /**
     * A family of processes is raised and put into groups and sessions; some are stopped, wait or end; then one that has
     * children ends, and everything is asked. Plain random calls come to such states too seldom.
     */
    private void runFamily() {
        shufflePids();
        for (int i = 0; i < 14; i++) {
            doFork(live());
        }
        for (int i = 0; i < 50; i++) {
            arrange();
        }
        for (int round = 0; round < 6 && differences == 0; round++) {
            for (int i = 0; i < 16; i++) {
                disturb();
            }
            end();
        }
        askAll();
    }

    /** Leaves a few children of init, so that a process can get children with lower pids than its own. */
    private void shufflePids() {
        int count = 3 + random.nextInt(10);
        for (int i = 0; i < count; i++) {
            doFork(1);
        }
        int kept = 2 + random.nextInt(count);
        for (int pid = 2; pid <= count + 1; pid++) {
            if (pid != kept && random.nextInt(6) != 0) {
                doExit(pid, 0);
            }
        }
    }

    private int live() {
        List<Integer> pids = model.pids();
        return pids.size() == 1 ? 1 : pids.get(1 + random.nextInt(pids.size() - 1));
    }

    private void arrange() {
        int p = live();
        int q = live();
        switch (random.nextInt(12)) {
            case 0 -> compare("beginSession " + p, () -> none(() -> post.beginSession(p)),
                () -> none(() -> model.beginSession(p)));
            case 1 -> compare("openTerminal " + p, () -> none(() -> post.openTerminal(p)),
                () -> none(() -> model.openTerminal(p)));
            case 2 -> doSetReaper(p, random.nextInt(3) != 0);
            case 3, 4, 5, 6 -> doSetGroup(model.parent(p), p, random.nextBoolean() ? p : model.group(q));
            case 7 -> compare("setForeground " + p, () -> post.setForeground(p, model.group(q)),
                () -> model.setForeground(p, model.group(q)));
            case 8 -> doSetAction(p, Signalpost.CHILD, random.nextInt(3));
            case 9 -> doSetAction(p, random.nextInt(9), 2);
            case 10 -> doSetAction(p, random.nextBoolean() ? Signalpost.HUP : Signalpost.CONT, 1 + random.nextInt(2));
            default -> doFork(p);
        }
    }

    private void disturb() {
        int p = live();
        int q = live();
        boolean b = random.nextBoolean();
        switch (random.nextInt(12)) {
            case 0, 1, 2 -> doSend(p, b ? Signalpost.STOP : Signalpost.TSTP);
            case 3 -> doSend(p, random.nextInt(9));
            case 4 -> {
                if (model.state(p) == Signalpost.STOPPED) {
                    doSend(p, random.nextInt(9));
                }
            }
            case 5, 6 -> compare("waitAny " + p + " " + b, () -> post.waitAny(p, b) ? 1 : 0, () -> model.waitAny(p, b));
            case 7, 8 -> {
                int r = model.parent(q);
                compare("waitFor " + r + " " + q + " " + b, () -> post.waitFor(r, q, b) ? 1 : 0,
                    () -> model.waitFor(r, q, b));
            }
            case 9 -> doFork(p);
            case 10 -> compare("type " + true, () -> post.type(true), () -> model.type(true));
            default -> arrange();
        }
    }

    private void end() {
        int p = model.parent(live());
        switch (random.nextInt(5)) {
            case 0 -> doExit(p == -1 ? 1 : p, random.nextInt(256));
            case 1 -> doSend(p == -1 ? 1 : p, Signalpost.KILL);
            case 2 -> {
                int group = model.group(live());
                int signal = random.nextInt(9);
                compare("sendToGroup " + group + " " + signal, () -> post.sendToGroup(group, signal),
                    () -> model.sendToGroup(group, signal));
            }
            case 3 -> {
                int leader = model.terminalSession();
                if (leader != -1) {
                    doSend(leader, Signalpost.KILL);
                }
            }
            default -> doExit(live(), random.nextInt(256));
        }
    }

    private void askAll() {
        compare("processes", post::processes, model::processes);
        compare("terminalSession", post::terminalSession, model::terminalSession);
        compare("foreground", post::foreground, model::foreground);
        for (int p = 1; p <= 40 && log.size() < CALLS - 8; p++) {
            int pid = p;
            compare("state " + p, () -> post.state(pid), () -> model.state(pid));
            if (model.exists(p) == 1) {
                compare("parent " + p, () -> post.parent(pid), () -> model.parent(pid));
                compare("pending " + p, () -> post.pending(pid), () -> model.pending(pid));
                compare("caught " + p, () -> post.caught(pid), () -> model.caught(pid));
                compare("waitResult " + p, () -> post.waitResult(pid), () -> model.waitResult(pid));
                compare("reportedChild " + p, () -> post.reportedChild(pid), () -> model.reportedChild(pid));
                compare("reportedValue " + p, () -> post.reportedValue(pid), () -> model.reportedValue(pid));
            }
        }
    }

    private void doFork(int p) {
        compare("fork " + p, () -> post.fork(p), () -> model.fork(p));
    }

    private void doExit(int p, int code) {
        compare("exit " + p + " " + code, () -> none(() -> post.exit(p, code)), () -> none(() -> model.exit(p, code)));
    }

    private void doSend(int p, int signal) {
        compare("send " + p + " " + signal, () -> none(() -> post.send(p, signal)),
            () -> none(() -> model.send(p, signal)));
    }

    private void doSetReaper(int p, boolean b) {
        compare("setReaper " + p + " " + b, () -> post.setReaper(p, b) ? 1 : 0, () -> model.setReaper(p, b));
    }

    private void doSetAction(int p, int signal, int action) {
        compare("setAction " + p + " " + signal + " " + action, () -> post.setAction(p, signal, action),
            () -> model.setAction(p, signal, action));
    }

    private void doSetGroup(int p, int target, int group) {
        compare("setGroup " + p + " " + target + " " + group, () -> post.setGroup(p, target, group),
            () -> model.setGroup(p, target, group));
    }

    private void compare(String call, LongSupplier real, LongSupplier due) {
        String got = outcome(real);
        String wanted = outcome(due);
        log.add(call + " = " + wanted);
        if (!got.equals(wanted)) {
            differences++;
            System.out.println(String.join("\n", log));
            System.out.println("the class answered " + got);
        }
    }

    private static String outcome(LongSupplier call) {
        try {
            return Long.toString(call.getAsLong());
        } catch (IndexOutOfBoundsException | IllegalArgumentException | IllegalStateException e) {
            // By its own name, so that what the machine throws (a subclass) never counts as the document's.
            return e.getClass().getSimpleName();
        }
    }

    private int pid() {
        return random.nextInt(60) == 0 ? wild() : 1 + random.nextInt(pids);
    }

    private int wild() {
        int[] some = {Integer.MIN_VALUE, -41, -2, -1, 0, 1, 39, 40, 41, 42, 64, 65, 72, 255, 512, Integer.MAX_VALUE};
        return some[random.nextInt(some.length)];
    }

    private int below(int bound) {
        return random.nextInt(50) == 0 ? wild() : random.nextInt(bound);
    }

    private int signal() {
        // HUP, INT, KILL and TERM end the runs of a process, so the others come more often.
        return random.nextInt(4) == 0 ? below(9) : 4 + random.nextInt(5);
    }

    private void act() {
        int p = pid();
        int q = pid();
        boolean b = random.nextBoolean();
        switch (random.nextInt(30)) {
            case 0, 1, 2, 3, 4, 5 -> doFork(p);
            case 6 -> compare("exec " + p, () -> post.exec(p), () -> model.exec(p));
            case 7 -> doExit(p, below(256));
            case 8, 9 -> compare("waitAny " + p + " " + b, () -> post.waitAny(p, b) ? 1 : 0, () -> model.waitAny(p, b));
            case 10, 11 -> compare("waitFor " + p + " " + q + " " + b, () -> post.waitFor(p, q, b) ? 1 : 0,
                () -> model.waitFor(p, q, b));
            case 12, 13, 14 -> doSetAction(p, below(9), random.nextInt(3) == 0 ? below(3) : 2);
            case 15, 16 -> {
                int mask = b ? 0 : below(512);
                compare("setMask " + p + " " + mask, () -> post.setMask(p, mask), () -> model.setMask(p, mask));
            }
            case 17, 18 -> act2(p, q, b);
            case 19, 20, 21 -> doSetGroup(p, q, b ? q : pid());
            case 22 -> compare("setForeground " + p + " " + q, () -> post.setForeground(p, q),
                () -> model.setForeground(p, q));
            case 23, 24, 25 -> doSend(p, signal());
            case 26, 27 -> {
                int s = signal();
                compare("sendToGroup " + p + " " + s, () -> post.sendToGroup(p, s), () -> model.sendToGroup(p, s));
            }
            case 28 -> compare("type " + b, () -> post.type(b), () -> model.type(b));
            default -> {
                if (random.nextInt(6) == 0) {
                    compare("hangUp", post::hangUp, model::hangUp);
                }
            }
        }
    }

    private void act2(int p, int q, boolean b) {
        switch (random.nextInt(3)) {
            case 0 -> compare("beginSession " + p, () -> none(() -> post.beginSession(p)),
                () -> none(() -> model.beginSession(p)));
            case 1 -> doSetReaper(p, b);
            default -> {
                compare("beginSession " + q, () -> none(() -> post.beginSession(q)),
                    () -> none(() -> model.beginSession(q)));
                compare("openTerminal " + q, () -> none(() -> post.openTerminal(q)),
                    () -> none(() -> model.openTerminal(q)));
            }
        }
    }

    private void ask() {
        int p = pid();
        switch (random.nextInt(14)) {
            case 0 -> compare("processes", post::processes, model::processes);
            case 1 -> compare("exists " + p, () -> post.exists(p) ? 1 : 0, () -> model.exists(p));
            case 2 -> compare("state " + p, () -> post.state(p), () -> model.state(p));
            case 3 -> compare("parent " + p, () -> post.parent(p), () -> model.parent(p));
            case 4 -> compare("group " + p, () -> post.group(p), () -> model.group(p));
            case 5 -> compare("session " + p, () -> post.session(p), () -> model.session(p));
            case 6 -> compare("pending " + p, () -> post.pending(p), () -> model.pending(p));
            case 7 -> compare("caught " + p, () -> post.caught(p), () -> model.caught(p));
            case 8 -> compare("isOrphaned " + p, () -> post.isOrphaned(p) ? 1 : 0, () -> model.isOrphaned(p));
            case 9 -> compare("terminalSession", post::terminalSession, model::terminalSession);
            case 10 -> compare("foreground", post::foreground, model::foreground);
            case 11 -> compare("waitResult " + p, () -> post.waitResult(p), () -> model.waitResult(p));
            case 12 -> compare("reportedChild " + p, () -> post.reportedChild(p), () -> model.reportedChild(p));
            default -> compare("reportedValue " + p, () -> post.reportedValue(p), () -> model.reportedValue(p));
        }
    }

    private static long none(Runnable call) {
        call.run();
        return 0;
    }
}
