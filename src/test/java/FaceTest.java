import java.lang.reflect.Constructor;
import java.lang.reflect.Field;
import java.lang.reflect.Member;
import java.lang.reflect.Method;
import java.lang.reflect.Modifier;
import java.util.Arrays;
import java.util.TreeSet;

/** The public face: just what the document shows, and nothing else that can be seen from outside. */
public final class FaceTest {
    private static final String[] FACE = {
        "int ACK", "int CANCEL", "int INVITE", "int NONE", "new (int, int)",
        "boolean ack(int)", "int bindings(int)", "int binding(int, int)", "int branch(int, int)",
        "int cancel(int)", "boolean cancelled(int, int)", "int challenge(int)", "int invite(int, int, int, int)",
        "int live()", "boolean login(int, int, int)", "long message(int)", "int now()",
        "boolean password(int, int)", "int register(int, int, int, int, int)", "int reply(int, int, int)",
        "int result(int, int)", "int sent()", "int server(int)", "int tick(int)"
    };

    public static void main(String[] args) {
        TreeSet<String> seen = new TreeSet<>();
        Class<ForkedInvites> face = ForkedInvites.class;
        for (Field f : face.getDeclaredFields()) {
            note(seen, f, f.getType() + " " + f.getName());
        }
        for (Constructor<?> c : face.getDeclaredConstructors()) {
            note(seen, c, "new " + types(c.getParameterTypes()));
        }
        for (Method m : face.getDeclaredMethods()) {
            note(seen, m, m.getReturnType() + " " + m.getName() + types(m.getParameterTypes()));
        }
        TreeSet<String> wanted = new TreeSet<>(Arrays.asList(FACE));
        if (!seen.equals(wanted)) {
            System.out.println("seen:   " + seen + "\nwanted: " + wanted);
        }
        Checks.due("the face is the document's", seen.equals(wanted), true);
        Checks.due("the class is final", Modifier.isFinal(face.getModifiers()), true);
        for (Class<?> inside : face.getDeclaredClasses()) {
            Checks.due(inside + " is static", Modifier.isStatic(inside.getModifiers()), true);
            Checks.due(inside + " is public", Modifier.isPublic(inside.getModifiers()), false);
        }
        Checks.due("NONE", ForkedInvites.NONE, -1);
        Checks.due("INVITE", ForkedInvites.INVITE, 1);
        Checks.due("CANCEL", ForkedInvites.CANCEL, 2);
        Checks.due("ACK", ForkedInvites.ACK, 3);
        Checks.end();
    }

    private static void note(TreeSet<String> seen, Member member, String text) {
        if (!Modifier.isPrivate(member.getModifiers())) {
            Checks.due(text + " is public", Modifier.isPublic(member.getModifiers()), true);
            seen.add(text);
        }
    }

    private static String types(Class<?>[] parameters) {
        return Arrays.toString(parameters).replace('[', '(').replace(']', ')');
    }
}
