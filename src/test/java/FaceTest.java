import java.lang.reflect.Constructor;
import java.lang.reflect.Field;
import java.lang.reflect.Method;
import java.lang.reflect.Modifier;
import java.util.TreeSet;

/** The class has the document's face and nothing more. */
public final class FaceTest {
    private static final String[] FACE = {
        "boolean poke(int,int)", "int peek(int)", "boolean fill(int,long)", "boolean tables(int,int,int)",
        "boolean pages(int,boolean)", "int load(int,int)", "int read(int,int)", "int write(int,int,int)",
        "int push(int)", "int pop()", "int far(int,int,boolean)", "int back()", "int trap(int)", "int end()",
        "int register(int)", "int segment(int,int)",
    };

    public static void main(String[] args) {
        Due due = new Due();
        Class<?> c = RingMachine.class;
        due.yes("the class is public", Modifier.isPublic(c.getModifiers()));
        due.yes("the class is final", Modifier.isFinal(c.getModifiers()));
        TreeSet<String> want = new TreeSet<>(java.util.List.of(FACE));
        TreeSet<String> got = new TreeSet<>();
        for (Method m : c.getDeclaredMethods()) {
            if (!Modifier.isPrivate(m.getModifiers()) && !m.isSynthetic()) {
                String text = m.toString().replace("public ", "").replace("RingMachine.", "");
                got.add(text);
            }
        }
        due.same("the methods", got.toString(), want.toString());
        for (Field f : c.getDeclaredFields()) {
            due.yes("field " + f.getName() + " is private", Modifier.isPrivate(f.getModifiers()) || f.isSynthetic());
        }
        int constructors = 0;
        for (Constructor<?> k : c.getDeclaredConstructors()) {
            constructors++;
            due.yes("the constructor is public", Modifier.isPublic(k.getModifiers()) && k.getParameterCount() == 0);
        }
        due.same("constructors", constructors, 1);
        due.finish();
    }
}
