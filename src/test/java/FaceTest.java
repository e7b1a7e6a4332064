import java.lang.reflect.Constructor;
import java.lang.reflect.Field;
import java.lang.reflect.Method;
import java.lang.reflect.Modifier;
import java.util.Set;
import java.util.TreeSet;

/** The class has the document's face and nothing else that can be seen, and no static state. */
public final class FaceTest {
    private static final Set<String> FACE = Set.of(
        "public static final int WideNet.NONE",
        "public WideNet(int)",
        "public int WideNet.join(int)",
        "public int WideNet.send(int,long,int,boolean,boolean)",
        "public int WideNet.skip(int,int)",
        "public int WideNet.queue(int,long,int)",
        "public int WideNet.tick(int)",
        "public boolean WideNet.hear(int,int)",
        "public boolean WideNet.reach(int)",
        "public boolean WideNet.lose(int)",
        "public boolean WideNet.replay(int)",
        "public boolean WideNet.spoil(int,int,int)",
        "public int WideNet.frames()",
        "public int WideNet.length(int)",
        "public int WideNet.octet(int,int)",
        "public int WideNet.goal(int)",
        "public int WideNet.state(int)",
        "public int WideNet.received(int,boolean)",
        "public long WideNet.payload(int,boolean,int)",
        "public int WideNet.tally(int,int)");

    private FaceTest() {
    }

    public static void main(String[] args) {
        Due.by("LANGUAGE.md, rules 1, 5 and 11");
        Set<String> seen = new TreeSet<>();
        for (Field field : WideNet.class.getDeclaredFields()) {
            note(seen, field.getModifiers(), field.toString());
        }
        for (Constructor<?> constructor : WideNet.class.getDeclaredConstructors()) {
            note(seen, constructor.getModifiers(), constructor.toString());
        }
        for (Method method : WideNet.class.getDeclaredMethods()) {
            note(seen, method.getModifiers(), method.toString());
        }
        Set<String> wanted = new TreeSet<>(FACE);
        Due.is("the face " + seen, seen.equals(wanted), true);
        Due.is("public and final", WideNet.class.getModifiers(), Modifier.PUBLIC | Modifier.FINAL);
        Due.is("NONE", WideNet.NONE, -1);
        lookInside(WideNet.class);
        for (Class<?> inside : WideNet.class.getDeclaredClasses()) {
            Due.is(inside + " is static and not public",
                Modifier.isStatic(inside.getModifiers()) && !Modifier.isPublic(inside.getModifiers()), true);
            lookInside(inside);
        }
        Due.end();
    }

    private static void note(Set<String> seen, int modifiers, String told) {
        if (!Modifier.isPrivate(modifiers)) {
            seen.add(told);
        }
    }

    private static void lookInside(Class<?> some) {
        int fields = 0;
        for (Field field : some.getDeclaredFields()) {
            boolean constant = Modifier.isStatic(field.getModifiers());
            fields += constant ? 0 : 1;
            Due.is(field + " is final if static", !constant || Modifier.isFinal(field.getModifiers()), true);
        }
        Due.is(some + " has at most some twenty fields", fields <= 20, true);
        for (Method method : some.getDeclaredMethods()) {
            Due.is(method + " has at most seven parameters", method.getParameterCount() <= 7, true);
            boolean taken = Modifier.isPublic(method.getModifiers()) || !nameOfFace(method.getName());
            Due.is(method + " bears no name of the face", taken, true);
        }
    }

    private static boolean nameOfFace(String name) {
        for (String told : FACE) {
            if (told.contains("." + name + "(")) {
                return true;
            }
        }
        return false;
    }
}
