/**
 * Everything about an object of some dozen processes as a text: what the questions answer, then what no question tells
 * (actions, masks, reapers, what is waited for), by calls that show it. The object is used up by that.
 */
final class Probe {
    private static final int LAST = 12;

    private interface Question {
        long answer();
    }

    private final Signalpost post;
    private final StringBuilder text = new StringBuilder();

    private Probe(Signalpost post) {
        this.post = post;
    }

    static String everything(Signalpost post) {
        Probe p = new Probe(post);
        p.askQuestions();
        p.showWhatIsHidden();
        p.askQuestions();
        return p.text.toString();
    }

    private void askQuestions() {
        tell("processes", post::processes);
        tell("terminalSession", post::terminalSession);
        tell("foreground", post::foreground);
        tell("isOrphaned 40", () -> post.isOrphaned(40) ? 1 : 0);
        for (int pid = 1; pid <= LAST; pid++) {
            int p = pid;
            tell("isOrphaned " + p, () -> post.isOrphaned(p) ? 1 : 0);
            if (!post.exists(p)) {
                continue;
            }
            tell("state " + p, () -> post.state(p));
            tell("parent", () -> post.parent(p));
            tell("group", () -> post.group(p));
            tell("session", () -> post.session(p));
            tell("pending", () -> post.pending(p));
            tell("caught", () -> post.caught(p));
            tell("waitResult", () -> post.waitResult(p));
            tell("reportedChild", () -> post.reportedChild(p));
            tell("reportedValue", () -> post.reportedValue(p));
        }
    }

    private void showWhatIsHidden() {
        // 5 is the STOPPED one of the family, and 4 the WAITING one, for its child 10 (not 11) and for stops, too.
        tell("waitFor 2 5", () -> post.waitFor(2, 5, true) ? 1 : 0);
        tell("CONT 5", () -> none(() -> post.send(5, Signalpost.CONT)));
        for (int pid : new int[] {11, 10}) {
            tell("STOP " + pid, () -> none(() -> post.send(pid, Signalpost.STOP)));
            tell("CONT " + pid, () -> none(() -> post.send(pid, Signalpost.CONT)));
            tell("state 4", () -> post.state(4));
        }
        tell("fork 1", () -> post.fork(1));
        for (int pid = 2; pid <= LAST; pid++) {
            int p = pid;
            if (!post.exists(p) || post.state(p) != Signalpost.RUNNING) {
                continue;
            }
            tell("reaper " + p, () -> post.setReaper(p, false) ? 1 : 0);
            for (int signal : new int[] {0, 1, 3, 4, 6, 7, 8}) {
                tell("action", () -> post.setAction(p, signal, Signalpost.CATCH));
            }
            tell("mask", () -> post.setMask(p, 0));
        }
        tell("waitFor 2 6", () -> post.waitFor(2, 6, false) ? 1 : 0);
    }

    private void tell(String what, Question question) {
        text.append(what).append('=');
        try {
            text.append(question.answer());
        } catch (IndexOutOfBoundsException | IllegalArgumentException | IllegalStateException e) {
            text.append(e.getClass().getSimpleName());
        }
        text.append(' ');
    }

    private static long none(Runnable call) {
        call.run();
        return 0;
    }
}
