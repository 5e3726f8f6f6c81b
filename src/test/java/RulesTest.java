import java.io.IOException;
import java.lang.management.ManagementFactory;
import java.lang.reflect.Constructor;
import java.lang.reflect.Field;
import java.lang.reflect.Method;
import java.lang.reflect.Modifier;
import java.nio.file.Files;
import java.nio.file.Path;
import java.util.ArrayList;
import java.util.List;
import java.util.Set;

/** The rules of LANGUAGE.md that can be counted or looked up; rule 1 is FaceTest's. */
public final class RulesTest {
    private static final Set<String> LIBRARY = Set.of("java.util.Arrays", "java.util.ArrayList", "java.util.List",
            "java.util.Iterator");
    private static final Set<Class<?>> CONSTANTS = Set.of(int.class, long.class, boolean.class, char.class,
            String.class, int[].class, long[].class, char[].class, byte[].class);
    /** Not all of these are ruled out; the class needs none of them. */
    private static final Set<String> WORDS = Set.of("throw", "try", "catch", "finally", "synchronized", "assert",
            "instanceof", "volatile", "transient", "native", "package", "Object", "Thread", "Random", "double", "float",
            "System.out", "System.nanoTime", "System.currentTimeMillis");
    private static final int MOST_LINES = 60;
    private static final int MANY_OBJECTS = 300;
    private static final int[][] PROGRAM = {
        {0, 0, 0, 3}, {0, 1, 0, 1}, {4, 2, 0, 0}, {1, 3, 3, 2}, {3, 4, 3, 0}, {5, 4, 0, 12}, {5, 0, 0, 20},
        {4, 5, 0, 12}, {8, 5, 0, 0}, {7, 5, 0, 11}, {8, 0, 0, 0}, {6, 3, 2, 13}, {2, 3, 3, 1}, {1, 0, 0, 1},
        {7, 5, 7, 2}, {8, 3, 0, 0}};
    private static final Check CHECK = new Check();

    public static void main(String[] args) throws IOException {
        List<Class<?>> classes = new ArrayList<>(List.of(SlippedStreams.class.getDeclaredClasses()));
        classes.add(SlippedStreams.class);
        notMore("11 classes", classes.size(), 12);
        classes.forEach(RulesTest::lookAt);
        lookAtLines(Files.readAllLines(Path.of("src/main/java/SlippedStreams.java")));
        noCallMakesAnObject();
        CHECK.end();
    }

    private static void notMore(String what, long got, long most) {
        CHECK.due(what + ", " + got + ", not more than " + most, got <= most ? 1 : 0, 1);
    }

    private static void lookAt(Class<?> c) {
        int fields = 0;
        for (Field f : c.getDeclaredFields()) {
            if (Modifier.isStatic(f.getModifiers())) {
                boolean sound = Modifier.isFinal(f.getModifiers()) && CONSTANTS.contains(f.getType());
                CHECK.due("5 constant " + f, sound ? 1 : 0, 1);
            } else {
                fields++;
            }
        }
        notMore("11 fields of " + c, fields, 20);
        for (Method m : c.getDeclaredMethods()) {
            notMore("11 parameters of " + m, m.getParameterCount(), 7);
            CHECK.due("2 no lambda: " + m, m.isSynthetic() ? 1 : 0, 0);
            boolean object = Set.of("equals", "hashCode", "toString").contains(m.getName());
            CHECK.due("6 none of an object's own: " + m, object ? 1 : 0, 0);
        }
        for (Constructor<?> made : c.getDeclaredConstructors()) {
            notMore("11 parameters of " + made, made.getParameterCount(), 7);
        }
    }

    private static void lookAtLines(List<String> lines) {
        int header = 0;
        int methods = 0;
        for (int i = 0; i < lines.size(); i++) {
            String code = lines.get(i).replaceAll("//.*|/?\\*.*", "");
            lookAtLine("line " + (i + 1), code);
            if (code.matches("( {4}| {8})[\\w\\[\\] ]*\\w\\(.*\\) \\{")) {
                header = i;
                methods++;
            } else if (code.equals(lines.get(header).replaceAll("\\S.*", "") + "}")) {
                notMore("11 lines of the method up to line " + (i + 1), i - header, MOST_LINES);
            }
        }
        CHECK.due("methods are found", methods > 50 ? 1 : 0, 1);
    }

    private static void lookAtLine(String what, String code) {
        if (code.startsWith("import ")) {
            String name = code.substring(7, code.indexOf(';'));
            CHECK.due("4 import of " + name, LIBRARY.contains(name) ? 1 : 0, 1);
        }
        for (String word : WORDS) {
            CHECK.due(what + " has " + word, code.matches(".*\\b" + word + "\\b.*") ? 1 : 0, 0);
        }
        CHECK.due("2 no lambda in " + what, code.contains("->") || code.contains("::") ? 1 : 0, 0);
    }

    /** 12 and the room of a run: rows are made with the object, so the calls behind it take no more. */
    private static void noCallMakesAnObject() {
        SlippedStreams[] objects = new SlippedStreams[MANY_OBJECTS];
        for (int i = 0; i < objects.length; i++) {
            objects[i] = new SlippedStreams();
        }
        callAll(objects[0]);
        com.sun.management.ThreadMXBean bean = (com.sun.management.ThreadMXBean) ManagementFactory.getThreadMXBean();
        long before = bean.getCurrentThreadAllocatedBytes();
        for (int i = 1; i < objects.length; i++) {
            callAll(objects[i]);
        }
        long bytes = bean.getCurrentThreadAllocatedBytes() - before;
        notMore("12 bytes for the calls of an object", bytes / objects.length, 15);
    }

    private static void callAll(SlippedStreams x) {
        for (int[] i : PROGRAM) {
            x.add(i[0], i[1], i[2], i[3]);
        }
        x.fill(2, 3);
        for (int turn = 0; turn < 20; turn++) {
            x.address(7);
            x.value(9);
            x.both(11);
            x.plain(13);
            x.add(9, turn, turn, turn);
            x.place(turn % 3);
            x.slip();
            x.queue(turn);
            x.register(turn, turn % 2 == 0);
            x.peek(turn, turn % 2 == 0);
            x.output(turn, x.outputs(turn % 2 == 0) > 3);
            x.streamOf(turn);
            if (x.addressRegisters() + x.losses() > 9 && turn % 8 == 7) {
                x.reset();
            }
        }
        x.clear();
    }
}
