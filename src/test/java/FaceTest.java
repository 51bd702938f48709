import java.lang.reflect.Constructor;
import java.lang.reflect.Field;
import java.lang.reflect.Method;
import java.lang.reflect.Modifier;
import java.util.Set;
import java.util.TreeSet;

/** The public face is the document's, and no member but it can be seen from outside. */
public final class FaceTest {
    private static final String[] FACE = {
        "public static final int PinwheelKernel.NONE",
        "public PinwheelKernel()",
        "public int PinwheelKernel.ask(int,int) throws java.lang.IllegalArgumentException,"
            + "java.lang.IllegalStateException,java.lang.UnsupportedOperationException",
        "public int PinwheelKernel.drop(int) throws java.util.NoSuchElementException,java.lang.IllegalStateException",
        "public int PinwheelKernel.slot()",
        "public void PinwheelKernel.wish(int) throws java.util.NoSuchElementException,java.lang.IllegalStateException",
        "public int PinwheelKernel.waited(int) throws java.util.NoSuchElementException",
        "public int PinwheelKernel.worst(int) throws java.util.NoSuchElementException",
        "public int PinwheelKernel.span(int) throws java.util.NoSuchElementException",
        "public int PinwheelKernel.cycle(boolean,int) throws java.lang.IllegalStateException,"
            + "java.lang.IndexOutOfBoundsException",
        "public int PinwheelKernel.about(int) throws java.lang.IllegalArgumentException",
        "public int PinwheelKernel.client(int) throws java.lang.IndexOutOfBoundsException",
        "public long PinwheelKernel.density(int) throws java.lang.IllegalArgumentException",
        "public int PinwheelKernel.feasible()",
    };

    public static void main(String[] args) {
        Set<String> seen = new TreeSet<>();
        for (Field field : PinwheelKernel.class.getDeclaredFields()) {
            note(seen, field.getModifiers(), field.isSynthetic(), field.toString());
        }
        for (Constructor<?> constructor : PinwheelKernel.class.getDeclaredConstructors()) {
            note(seen, constructor.getModifiers(), constructor.isSynthetic(), constructor.toString());
        }
        for (Method method : PinwheelKernel.class.getDeclaredMethods()) {
            note(seen, method.getModifiers(), method.isSynthetic(), method.toString());
        }
        Check c = new Check();
        c.dueText("the face", new TreeSet<>(Set.of(FACE)).toString(), seen.toString());
        c.dueText("the class", "public final", Modifier.toString(PinwheelKernel.class.getModifiers()));
        c.end("FaceTest");
    }

    private static void note(Set<String> seen, int modifiers, boolean synthetic, String text) {
        if (!Modifier.isPrivate(modifiers) && !synthetic) {
            seen.add(text);
        }
    }
}
