import java.util.ArrayList;
import java.util.List;
import java.util.Random;
import java.util.function.LongSupplier;

/** Random runs of at most 512 calls, from fixed seeds, on the class and on the model: the answers have to agree. */
public final class ModelTest {
    private static final int RUNS = 6000;
    private static final int CALLS = 512;

    private static long differences = 0;

    private final Random random;
    private final Signalpost post = new Signalpost();
    private final Model model = new Model();
    private final List<String> log = new ArrayList<>();
    private final int pids;
    private final boolean asksMuch;

    private ModelTest(int seed) {
        random = new Random(seed);
        pids = seed % 7 == 0 ? 40 : 4 + seed % 11;
        asksMuch = seed % 3 != 0;
    }

    public static void main(String[] args) {
        for (int seed = 1; seed <= RUNS && differences == 0; seed++) {
            new ModelTest(seed).run();
        }
        Check.due("differences", differences, 0);
        Check.finish();
    }

    private void run() {
        while (log.size() < CALLS - 1 && differences == 0) {
            if (asksMuch && random.nextInt(3) != 0) {
                ask();
            } else {
                act();
            }
        }
    }

    private void compare(String call, LongSupplier real, LongSupplier due) {
        String got = outcome(real);
        String wanted = outcome(due);
        log.add(call + " = " + wanted);
        if (!got.equals(wanted)) {
            differences++;
            System.out.println(String.join("\n", log));
            System.out.println("the class answered " + got);
        }
    }

    private static String outcome(LongSupplier call) {
        try {
            return Long.toString(call.getAsLong());
        } catch (IndexOutOfBoundsException | IllegalArgumentException | IllegalStateException e) {
            // By its own name, so that what the machine throws (a subclass) never counts as the document's.
            return e.getClass().getSimpleName();
        }
    }

    private int pid() {
        return random.nextInt(60) == 0 ? wild() : 1 + random.nextInt(pids);
    }

    private int wild() {
        int[] some = {Integer.MIN_VALUE, -41, -2, -1, 0, 1, 39, 40, 41, 42, 64, 65, 72, 255, 512, Integer.MAX_VALUE};
        return some[random.nextInt(some.length)];
    }

    private int below(int bound) {
        return random.nextInt(50) == 0 ? wild() : random.nextInt(bound);
    }

    private int signal() {
        // HUP, INT, KILL and TERM end the runs of a process, so the others come more often.
        return random.nextInt(4) == 0 ? below(9) : 4 + random.nextInt(5);
    }

    private void act() {
        int p = pid();
        int q = pid();
        boolean b = random.nextBoolean();
        switch (random.nextInt(30)) {
            case 0, 1, 2, 3, 4, 5 ->
                compare("fork " + p, () -> post.fork(p), () -> model.fork(p));
            case 6 -> compare("exec " + p, () -> post.exec(p), () -> model.exec(p));
            case 7 -> {
                int code = below(256);
                compare("exit " + p + " " + code, () -> none(() -> post.exit(p, code)),
                    () -> none(() -> model.exit(p, code)));
            }
            case 8, 9 -> compare("waitAny " + p + " " + b, () -> post.waitAny(p, b) ? 1 : 0, () -> model.waitAny(p, b));
            case 10, 11 -> compare("waitFor " + p + " " + q + " " + b, () -> post.waitFor(p, q, b) ? 1 : 0,
                () -> model.waitFor(p, q, b));
            case 12, 13, 14 -> {
                int s = below(9);
                int a = random.nextInt(3) == 0 ? below(3) : 2;
                compare("setAction " + p + " " + s + " " + a, () -> post.setAction(p, s, a),
                    () -> model.setAction(p, s, a));
            }
            case 15, 16 -> {
                int mask = b ? 0 : below(512);
                compare("setMask " + p + " " + mask, () -> post.setMask(p, mask), () -> model.setMask(p, mask));
            }
            case 17, 18 -> act2(p, q, b);
            case 19, 20, 21 -> {
                int g = b ? q : pid();
                compare("setGroup " + p + " " + q + " " + g, () -> post.setGroup(p, q, g),
                    () -> model.setGroup(p, q, g));
            }
            case 22 -> compare("setForeground " + p + " " + q, () -> post.setForeground(p, q),
                () -> model.setForeground(p, q));
            case 23, 24, 25 -> {
                int s = signal();
                compare("send " + p + " " + s, () -> none(() -> post.send(p, s)), () -> none(() -> model.send(p, s)));
            }
            case 26, 27 -> {
                int s = signal();
                compare("sendToGroup " + p + " " + s, () -> post.sendToGroup(p, s), () -> model.sendToGroup(p, s));
            }
            case 28 -> compare("type " + b, () -> post.type(b), () -> model.type(b));
            default -> {
                if (random.nextInt(6) == 0) {
                    compare("hangUp", post::hangUp, model::hangUp);
                }
            }
        }
    }

    private void act2(int p, int q, boolean b) {
        switch (random.nextInt(3)) {
            case 0 -> compare("beginSession " + p, () -> none(() -> post.beginSession(p)),
                () -> none(() -> model.beginSession(p)));
            case 1 -> compare("setReaper " + p + " " + b, () -> post.setReaper(p, b) ? 1 : 0,
                () -> model.setReaper(p, b));
            default -> {
                compare("beginSession " + q, () -> none(() -> post.beginSession(q)),
                    () -> none(() -> model.beginSession(q)));
                compare("openTerminal " + q, () -> none(() -> post.openTerminal(q)),
                    () -> none(() -> model.openTerminal(q)));
            }
        }
    }

    private void ask() {
        int p = pid();
        switch (random.nextInt(14)) {
            case 0 -> compare("processes", post::processes, model::processes);
            case 1 -> compare("exists " + p, () -> post.exists(p) ? 1 : 0, () -> model.exists(p));
            case 2 -> compare("state " + p, () -> post.state(p), () -> model.state(p));
            case 3 -> compare("parent " + p, () -> post.parent(p), () -> model.parent(p));
            case 4 -> compare("group " + p, () -> post.group(p), () -> model.group(p));
            case 5 -> compare("session " + p, () -> post.session(p), () -> model.session(p));
            case 6 -> compare("pending " + p, () -> post.pending(p), () -> model.pending(p));
            case 7 -> compare("caught " + p, () -> post.caught(p), () -> model.caught(p));
            case 8 -> compare("isOrphaned " + p, () -> post.isOrphaned(p) ? 1 : 0, () -> model.isOrphaned(p));
            case 9 -> compare("terminalSession", post::terminalSession, model::terminalSession);
            case 10 -> compare("foreground", post::foreground, model::foreground);
            case 11 -> compare("waitResult " + p, () -> post.waitResult(p), () -> model.waitResult(p));
            case 12 -> compare("reportedChild " + p, () -> post.reportedChild(p), () -> model.reportedChild(p));
            default -> compare("reportedValue " + p, () -> post.reportedValue(p), () -> model.reportedValue(p));
        }
    }

    private static long none(Runnable call) {
        call.run();
        return 0;
    }
}
