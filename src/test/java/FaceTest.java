import java.lang.reflect.Constructor;
import java.lang.reflect.Field;
import java.lang.reflect.Method;
import java.lang.reflect.Modifier;
import java.util.Arrays;
import java.util.TreeMap;
import java.util.TreeSet;

/** The face: the constants, the constructor and the methods of the document, and nothing else that can be seen. */
public final class FaceTest {
    private static final String[] CONSTANTS = {
        "NONE=-1", "HUP=0", "INT=1", "KILL=2", "TERM=3", "CHILD=4", "STOP=5", "TSTP=6", "CONT=7", "USER=8",
        "DEFAULT=0", "IGNORE=1", "CATCH=2", "RUNNING=0", "WAITING=1", "STOPPED=2", "ZOMBIE=3",
        "EXITED=0", "KILLED=1", "STOPPED_BY=2", "INTERRUPTED=3", "NO_CHILD=4",
    };

    // B, A and S stand for IndexOutOfBoundsException, IllegalArgumentException and IllegalStateException.
    private static final String[] METHODS = {
        "int fork(int) BS", "int exec(int) BS", "void exit(int,int) BAS", "boolean waitAny(int,boolean) BS",
        "boolean waitFor(int,int,boolean) BAS", "int setAction(int,int,int) BAS", "int setMask(int,int) BAS",
        "void beginSession(int) BS", "int setGroup(int,int,int) BAS", "boolean setReaper(int,boolean) BS",
        "void openTerminal(int) BS", "int setForeground(int,int) BAS", "void send(int,int) BA",
        "int sendToGroup(int,int) A", "int type(boolean) S", "int hangUp() S", "int processes() ",
        "boolean exists(int) A", "int state(int) B", "int parent(int) B", "int group(int) B", "int session(int) B",
        "int pending(int) B", "int caught(int) B", "boolean isOrphaned(int) A", "int terminalSession() ",
        "int foreground() ", "int waitResult(int) B", "int reportedChild(int) B", "int reportedValue(int) B",
    };

    public static void main(String[] args) throws IllegalAccessException {
        Check.due("public and final", Signalpost.class.getModifiers(), Modifier.PUBLIC | Modifier.FINAL);
        same("constants", CONSTANTS, constants());
        same("methods", METHODS, methods());
        Constructor<?>[] constructors = Signalpost.class.getDeclaredConstructors();
        Check.due("constructors", constructors.length, 1);
        Check.due("public constructor", constructors[0].getModifiers(), Modifier.PUBLIC);
        Check.due("parameters of the constructor", constructors[0].getParameterCount(), 0);
        Check.finish();
    }

    private static void same(String what, String[] due, TreeSet<String> got) {
        TreeSet<String> wanted = new TreeSet<>(Arrays.asList(due));
        boolean equal = wanted.equals(got);
        if (!equal) {
            System.out.println(what + ": " + got);
        }
        Check.due(what, equal, true);
    }

    private static TreeSet<String> constants() throws IllegalAccessException {
        TreeSet<String> found = new TreeSet<>();
        for (Field f : Signalpost.class.getDeclaredFields()) {
            if (!Modifier.isPrivate(f.getModifiers())) {
                int due = Modifier.PUBLIC | Modifier.STATIC | Modifier.FINAL;
                Check.due(f.getName() + " is a constant", f.getModifiers(), due);
                found.add(f.getName() + "=" + f.getInt(null));
            }
        }
        return found;
    }

    private static TreeSet<String> methods() {
        TreeMap<String, String> letters = new TreeMap<>();
        letters.put("IndexOutOfBoundsException", "B");
        letters.put("IllegalArgumentException", "A");
        letters.put("IllegalStateException", "S");
        TreeSet<String> found = new TreeSet<>();
        for (Method m : Signalpost.class.getDeclaredMethods()) {
            if (Modifier.isPrivate(m.getModifiers()) || m.isSynthetic()) {
                continue;
            }
            StringBuilder text = new StringBuilder(m.getReturnType() + " " + m.getName() + "(");
            for (Class<?> parameter : m.getParameterTypes()) {
                text.append(text.charAt(text.length() - 1) == '(' ? "" : ",").append(parameter);
            }
            text.append(") ");
            for (Class<?> thrown : m.getExceptionTypes()) {
                text.append(letters.get(thrown.getSimpleName()));
            }
            Check.due(text + " is public", m.getModifiers(), Modifier.PUBLIC);
            found.add(text.toString());
        }
        return found;
    }
}
