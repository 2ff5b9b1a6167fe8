import java.lang.reflect.Constructor;
import java.lang.reflect.Field;
import java.lang.reflect.Method;
import java.lang.reflect.Modifier;
import java.util.Arrays;
import java.util.TreeSet;

/** The class shows the document's face and nothing else. */
public final class FaceTest {
    private static final String[] FACE = {
        "public boolean ScoreMachine.put(int,int,int,int,int)",
        "public boolean ScoreMachine.units(int,int)",
        "public boolean ScoreMachine.latency(int,int)",
        "public boolean ScoreMachine.width(int)",
        "public boolean ScoreMachine.set(int,int,long)",
        "public int ScoreMachine.run(int)",
        "public void ScoreMachine.again()",
        "public void ScoreMachine.clear()",
        "public int ScoreMachine.count(int)",
        "public long ScoreMachine.register(int) throws java.util.NoSuchElementException",
        "public long ScoreMachine.memory(int) throws java.util.NoSuchElementException",
        "public long ScoreMachine.plain(int,int) throws java.util.NoSuchElementException",
        "public int ScoreMachine.unit(int,int,int)",
        "public int ScoreMachine.pending(int)",
        "public int ScoreMachine.latest(int,int)",
        "public ScoreMachine()",
        "public static final int ScoreMachine.NONE",
    };

    public static void main(String[] args) {
        TreeSet<String> shown = new TreeSet<>();
        for (Method m : ScoreMachine.class.getDeclaredMethods()) {
            addIfShown(shown, m.getModifiers(), m.toString());
        }
        for (Constructor<?> c : ScoreMachine.class.getDeclaredConstructors()) {
            addIfShown(shown, c.getModifiers(), c.toString());
        }
        for (Field f : ScoreMachine.class.getDeclaredFields()) {
            addIfShown(shown, f.getModifiers(), f.toString());
        }
        TreeSet<String> due = new TreeSet<>(Arrays.asList(FACE));
        boolean classIsDue = ScoreMachine.class.getModifiers() == (Modifier.PUBLIC | Modifier.FINAL);
        if (!shown.equals(due) || !classIsDue || ScoreMachine.NONE != -1) {
            System.out.println("the face is " + shown + ", due is " + due);
            System.exit(1);
        }
        System.out.println("the face is as due");
    }

    private static void addIfShown(TreeSet<String> shown, int modifiers, String text) {
        if (!Modifier.isPrivate(modifiers)) {
            shown.add(text);
        }
    }
}
