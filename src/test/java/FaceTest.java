import java.lang.reflect.Constructor;
import java.lang.reflect.Field;
import java.lang.reflect.Method;
import java.lang.reflect.Modifier;
import java.util.TreeSet;

/** The public face is the document's, with nothing beside it. */
public final class FaceTest extends Check {
    private static final String[] FACE = {
        "int feed(int,int,int,int,int)", "int end(int)", "int sum()", "int device(int,int)",
        "boolean bank(int,int,int,int)", "boolean put(int,int,int,int)", "int get(int,int,int)",
        "boolean limit(int,int,int,int,int)", "boolean file(int,int,int)", "int record(int,int,int)",
        "boolean queue(int,int)", "int push(int,int,int)", "boolean name(int,int)",
        "boolean rule(int,int,int,int,int)", "boolean busy(int,int)", "int serve(int)", "int answer(int)",
        "boolean settings(int,int,int)", "int request(int)", "int scan(int,int)", "boolean harm(int,int)",
        "int tick(int) throws IllegalArgumentException", "int result(int)",
        "int data(int) throws IndexOutOfBoundsException", "boolean take()", "int state(int)",
        "int counter(int,int)", "int event(int,int)", "int sent(int)"};

    public static void main(String[] args) {
        sentence("The public face");
        TreeSet<String> want = new TreeSet<>(java.util.Arrays.asList(FACE));
        TreeSet<String> names = new TreeSet<>();
        for (Method m : FieldLine.class.getDeclaredMethods()) {
            if (Modifier.isPublic(m.getModifiers())) {
                due("a method of the face: " + face(m), want.remove(face(m)), true);
                names.add(m.getName());
            }
        }
        due("methods that are missing: " + want, want.size(), 0);
        for (Method m : FieldLine.class.getDeclaredMethods()) {
            boolean isPublic = Modifier.isPublic(m.getModifiers());
            due(m + " is public or private", isPublic || Modifier.isPrivate(m.getModifiers()), true);
            due(m + " has its own name", isPublic || !names.contains(m.getName()), true);
        }
        for (Field f : FieldLine.class.getDeclaredFields()) {
            boolean right = f.getName().equals("NONE") || Modifier.isPrivate(f.getModifiers());
            due(f + " is private", right, true);
        }
        for (Constructor<?> k : FieldLine.class.getDeclaredConstructors()) {
            due(k + " is the public one", Modifier.isPublic(k.getModifiers()) && k.getParameterCount() == 0, true);
        }
        due("the class is final", Modifier.isFinal(FieldLine.class.getModifiers()), true);
        due("NONE", FieldLine.NONE, -1);
        end("FaceTest");
    }

    private static String face(Method m) {
        StringBuilder b = new StringBuilder();
        b.append(m.getReturnType()).append(' ').append(m.getName()).append('(');
        for (int i = 0; i < m.getParameterCount(); i++) {
            b.append(i == 0 ? "" : ",").append(m.getParameterTypes()[i]);
        }
        b.append(')');
        for (Class<?> e : m.getExceptionTypes()) {
            b.append(" throws ").append(e.getSimpleName());
        }
        return b.toString();
    }
}
