import java.lang.reflect.Constructor;
import java.lang.reflect.Field;
import java.lang.reflect.Method;
import java.lang.reflect.Modifier;
import java.util.Set;
import java.util.TreeSet;

/** The class has the document's face and no other member that is not private. */
public final class FaceTest {
    private static final Set<String> DUE = Set.of(
            "public SlippedStreams()",
            "public static final int SlippedStreams.NONE",
            "public int SlippedStreams.add(int,int,int,int)",
            "public void SlippedStreams.fill(int,int)",
            "public int SlippedStreams.clear()",
            "public void SlippedStreams.reset()",
            "public int SlippedStreams.streamOf(int)",
            "public int SlippedStreams.addressRegisters()",
            "public int SlippedStreams.address(int)",
            "public int SlippedStreams.value(int)",
            "public int SlippedStreams.both(int)",
            "public int SlippedStreams.place(int)",
            "public int SlippedStreams.slip()",
            "public int SlippedStreams.queue(int)",
            "public int SlippedStreams.register(int,boolean)",
            "public int SlippedStreams.peek(int,boolean)",
            "public int SlippedStreams.losses()",
            "public int SlippedStreams.plain(int)",
            "public int SlippedStreams.outputs(boolean)",
            "public int SlippedStreams.output(int,boolean)");

    public static void main(String[] args) {
        Check check = new Check();
        Set<String> got = face();
        for (String member : DUE) {
            check.due("has " + member, got.contains(member) ? 1 : 0, 1);
        }
        for (String member : got) {
            check.due("may have " + member, DUE.contains(member) ? 1 : 0, 1);
        }
        check.due("modifiers", SlippedStreams.class.getModifiers(), Modifier.PUBLIC | Modifier.FINAL);
        check.due("NONE", SlippedStreams.NONE, -1);
        checkPrivateNames(check);
        checkClassesInside(check);
        check.end();
    }

    private static Set<String> face() {
        Set<String> got = new TreeSet<>();
        for (Constructor<?> c : SlippedStreams.class.getDeclaredConstructors()) {
            addUnlessPrivate(got, c.getModifiers(), c.toString());
        }
        for (Field f : SlippedStreams.class.getDeclaredFields()) {
            addUnlessPrivate(got, f.getModifiers(), f.toString());
        }
        for (Method m : SlippedStreams.class.getDeclaredMethods()) {
            addUnlessPrivate(got, m.getModifiers(), m.toString());
        }
        return got;
    }

    private static void addUnlessPrivate(Set<String> got, int modifiers, String member) {
        if (!Modifier.isPrivate(modifiers)) {
            got.add(member);
        }
    }

    private static void checkPrivateNames(Check check) {
        Set<String> names = new TreeSet<>();
        for (Method m : SlippedStreams.class.getMethods()) {
            names.add(m.getName());
        }
        for (Method m : SlippedStreams.class.getDeclaredMethods()) {
            boolean clash = Modifier.isPrivate(m.getModifiers()) && names.contains(m.getName());
            check.due("private " + m.getName() + " bears a public name", clash ? 1 : 0, 0);
        }
        for (Class<?> inside : SlippedStreams.class.getDeclaredClasses()) {
            for (Method m : inside.getDeclaredMethods()) {
                check.due(m + " bears a public name", names.contains(m.getName()) ? 1 : 0, 0);
            }
        }
    }

    private static void checkClassesInside(Check check) {
        for (Class<?> inside : SlippedStreams.class.getDeclaredClasses()) {
            int modifiers = inside.getModifiers();
            boolean hidden = !Modifier.isPublic(modifiers) && !Modifier.isProtected(modifiers);
            check.due(inside + " is hidden and static", hidden && Modifier.isStatic(modifiers) ? 1 : 0, 1);
        }
    }
}
