import java.lang.management.ManagementFactory;
import java.lang.reflect.Constructor;
import java.lang.reflect.Field;
import java.lang.reflect.Method;
import java.lang.reflect.Modifier;
import java.util.ArrayList;
import java.util.HashSet;
import java.util.List;
import java.util.Random;
import java.util.Set;
import java.util.TreeSet;

/** The face as the document has it, and that calls neither throw nor fill the room. */
public final class FaceTest {
    private static final String[] FACE = {"int write(int,long)", "int wipe()", "int fault()", "int lay()",
        "int sign(int,int)", "int stones(int,int)", "int in(int,int)", "int read(int,int)", "int alike(int,int)",
        "long chance(int,int,int)", "int best(int)", "int sure(int,int)", "int seam(int,int)", "int pause()",
        "int next()", "int men(int,int)", "int asks(int,int)", "int may(int,int)", "long partings()",
        "long odds(int,int,int)", "int named(int)", "int grown(int)", "int again()",
        "int found(int,int,int,int,int,int)", "int keep()", "int back()", "int count(int)"};

    private FaceTest() {
    }

    private static String shapeOf(Method method) {
        List<String> types = new ArrayList<>();
        for (Class<?> type : method.getParameterTypes()) {
            types.add(type.getName());
        }
        return method.getReturnType() + " " + method.getName() + "(" + String.join(",", types) + ")";
    }

    private static void face() {
        Set<String> found = new TreeSet<>();
        Set<String> names = new HashSet<>();
        for (Method method : MasonMarks.class.getDeclaredMethods()) {
            if (!Modifier.isPrivate(method.getModifiers())) {
                found.add(shapeOf(method));
                names.add(method.getName());
            }
        }
        Due.holds("the methods are " + found, found.equals(new TreeSet<>(List.of(FACE))));
        Due.holds("final", Modifier.isFinal(MasonMarks.class.getModifiers()));
        Constructor<?>[] makers = MasonMarks.class.getDeclaredConstructors();
        Due.is("constructors", makers.length, 1);
        Due.holds("the constructor", Modifier.isPublic(makers[0].getModifiers()) && makers[0].getParameterCount() == 0);
        Set<String> constants = new TreeSet<>();
        for (Field field : MasonMarks.class.getDeclaredFields()) {
            boolean shown = !Modifier.isPrivate(field.getModifiers());
            if (shown) {
                constants.add(field.getName());
            }
            if (Modifier.isStatic(field.getModifiers())) {
                Due.holds("final: " + field, Modifier.isFinal(field.getModifiers()));
            }
        }
        Due.holds("the constants are " + constants, constants.equals(Set.of("BAD", "NO", "FULL", "NONE")));
        Due.is("BAD", MasonMarks.BAD, -1);
        Due.is("NO", MasonMarks.NO, -2);
        Due.is("FULL", MasonMarks.FULL, -3);
        Due.is("NONE", MasonMarks.NONE, -4);
        inside(MasonMarks.class, names);
    }

    private static void inside(Class<?> outer, Set<String> names) {
        for (Method method : outer.getDeclaredMethods()) {
            boolean shown = outer == MasonMarks.class && Modifier.isPublic(method.getModifiers());
            Due.holds("no second " + method, shown || !names.contains(method.getName()));
            Due.holds("seven parameters: " + method, method.getParameterCount() <= 7);
        }
        Due.holds("some twenty fields: " + outer, outer.getDeclaredFields().length <= 40);
        for (Class<?> nested : outer.getDeclaredClasses()) {
            Due.holds("static: " + nested, Modifier.isStatic(nested.getModifiers()));
            Due.holds("not public: " + nested, !Modifier.isPublic(nested.getModifiers()));
            inside(nested, names);
        }
    }

    /** As much as 500 bytes can tell: all signs, courses, parts and names. */
    private static String great() {
        StringBuilder text = new StringBuilder();
        for (int k = 0; k < 16; k++) {
            text.append("g9,").append(k == 0 ? 99 : k - 1).append(';');
        }
        for (int c = 0; c < 16; c++) {
            text.append('c').append(c % 6).append(",0,9;");
        }
        text.append("n0,9;".repeat(10));
        for (int k = 0; k < 10; k++) {
            text.append('t').append(k % 6).append(',').append(k).append(",99;");
        }
        for (int p = 0; p < 6; p++) {
            text.append('t').append(p).append(",99,99;");
        }
        return text.toString();
    }

    private static long callAll(MasonMarks x, int[] n) {
        long sum = x.write(n[0], n[1]) + x.fault() + x.sign(n[0], n[1]) + x.stones(n[0], n[1]) + x.in(n[0], n[1]);
        sum += x.read(n[0], n[1]) + x.alike(n[0], n[1]) + x.chance(n[0], n[1], n[2]) + x.best(n[0]);
        sum += x.sure(n[0], n[1]) + x.seam(n[0], n[1]) + x.pause() + x.men(n[0], n[1]) + x.asks(n[0], n[1]);
        sum += x.may(n[0], n[1]) + x.odds(n[0], n[1], n[2]) + x.named(n[0]) + x.grown(n[0]) + x.again();
        sum += x.found(n[0], n[1], n[2], n[3], n[4], n[5]) + x.keep() + x.back() + x.count(n[0]) + x.partings();
        return sum + x.next() + x.lay() + x.wipe();
    }

    private static void neverThrows() {
        int[] edges = {Integer.MIN_VALUE, Integer.MIN_VALUE + 1, -100, -5, -4, -3, -2, -1, 0, 1, 2, 3, 4, 5, 6, 7, 8, 9,
            10, 11, 12, 15, 16, 17, 18, 23, 24, 31, 32, 33, 63, 64, 97, 98, 99, 100, 500, 720, 9999, 10000,
            Integer.MAX_VALUE - 1, Integer.MAX_VALUE};
        String[] texts = {"", great(), "c0,0,0;c1,0,0;b0,1;b1,0;t0,99,9;g1,99;", "c5,23,23;", "g1,99;n0,0;"};
        Random lots = new Random(1);
        int[] n = new int[6];
        for (int run = 0; run < 300; run++) {
            MasonMarks x = Due.laid(texts[run % texts.length]);
            for (int i = 0; i < 4; i++) {
                for (int j = 0; j < n.length; j++) {
                    n[j] = lots.nextInt(3) == 0 ? edges[lots.nextInt(edges.length)] : lots.nextInt(6);
                }
                try {
                    callAll(x, n);
                } catch (RuntimeException e) {
                    e.printStackTrace(System.out);
                    Due.holds("no call throws", false);
                }
            }
        }
    }

    /** The room is shared by all calls of a run, so no call may make anything once the object is there. */
    private static void makesNothing() {
        com.sun.management.ThreadMXBean beans = (com.sun.management.ThreadMXBean) ManagementFactory.getThreadMXBean();
        MasonMarks x = Due.laid(great());
        int[] n = {0, 1, 0, 12, 50, 0};
        callAll(x, n);
        // The measuring makes something itself, so its own share is measured first.
        long empty = beans.getCurrentThreadAllocatedBytes();
        empty = beans.getCurrentThreadAllocatedBytes() - empty;
        long before = beans.getCurrentThreadAllocatedBytes();
        callAll(x, n);
        x.found(5, 6, 700, 12, 50, 2);
        long made = beans.getCurrentThreadAllocatedBytes() - before - empty;
        Due.holds("calls made " + made + " bytes", made < 64);
    }

    public static void main(String[] args) {
        face();
        neverThrows();
        makesNothing();
        Due.end();
    }
}
