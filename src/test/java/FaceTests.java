import java.lang.management.ManagementFactory;
import java.lang.reflect.Array;
import java.lang.reflect.Constructor;
import java.lang.reflect.Field;
import java.lang.reflect.Method;
import java.lang.reflect.Modifier;
import java.util.Arrays;
import java.util.Collections;
import java.util.IdentityHashMap;
import java.util.Set;
import java.util.TreeSet;

/** The class has the document's face and no other, and its calls make no objects. */
public final class FaceTests {
    private static final String[] FACE = {
        "int clear()", "int source()", "int filter(int,long,long)", "int map(int,int,int)", "int fold(int,int,int)",
        "int join(int,int,int)", "int merge(int,int)", "int best(int,int)", "int look(int,int)",
        "int put(int,int,long)", "int remove(int,int)", "int begin()", "int end()", "int drop()", "int told()",
        "int change(int,int,int)", "long value(int,int,int)", "int logged()", "int forget()", "int net(int,int,int)",
        "int copy(int,int)", "int take(int,int,long,long)", "int same(int)", "int has(int,int)", "long at(int,int)",
        "int of(int,int)", "int count(int)", "int NONE", "int BAD", "int FULL", "int NO", "ChangeRows()"};

    private static int wrong = 0;

    public static void main(String[] args) throws IllegalAccessException {
        TreeSet<String> found = new TreeSet<>();
        for (Method m : ChangeRows.class.getDeclaredMethods()) {
            String shown = m.getReturnType() + " " + m.getName() + list(m.getParameterTypes());
            note(found, m.getModifiers(), Modifier.PUBLIC, shown);
        }
        for (Field f : ChangeRows.class.getDeclaredFields()) {
            int constant = Modifier.PUBLIC | Modifier.STATIC | Modifier.FINAL;
            note(found, f.getModifiers(), constant, f.getType() + " " + f.getName());
        }
        for (Constructor<?> c : ChangeRows.class.getDeclaredConstructors()) {
            note(found, c.getModifiers(), Modifier.PUBLIC, c.getName() + list(c.getParameterTypes()));
        }
        TreeSet<String> due = new TreeSet<>(Arrays.asList(FACE));
        check("the face is " + found + ", due is " + due, found.equals(due));
        int kind = ChangeRows.class.getModifiers();
        check("the class is not public and final", Modifier.isPublic(kind) && Modifier.isFinal(kind));
        callsMakeNothing();
        aNewObjectMakesFew();
        System.out.println(wrong == 0 ? "the face is as due" : wrong + " faults");
        if (wrong != 0) {
            System.exit(1);
        }
    }

    private static void note(TreeSet<String> found, int modifiers, int due, String shown) {
        if (!Modifier.isPrivate(modifiers)) {
            found.add(shown);
            check(shown + " has other modifiers", modifiers == due);
        }
    }

    private static String list(Class<?>[] types) {
        StringBuilder shown = new StringBuilder("(");
        for (Class<?> type : types) {
            shown.append(shown.length() == 1 ? "" : ",").append(type.getName());
        }
        return shown.append(")").toString();
    }

    private static void callsMakeNothing() {
        if (!(ManagementFactory.getThreadMXBean() instanceof com.sun.management.ThreadMXBean bean)) {
            return;
        }
        long before = 0;
        for (int round = 0; round < 2; round++) {
            ChangeRows x = new ChangeRows();
            x.source();
            for (int t = 1; t < 12; t++) {
                x.best(t - 1, 33);
            }
            before = bean.getCurrentThreadAllocatedBytes();
            for (int i = 0; i < 50; i++) {
                x.put(0, i % 64, i);
                x.net(11, 0, x.logged());
                x.copy(11, x.logged());
                x.forget();
                x.clear();
                x.source();
                x.look(0, 0);
            }
        }
        check("450 calls made objects", bean.getCurrentThreadAllocatedBytes() - before < 10000);
    }

    /** All objects of a run share one room, and a run may make many of this class. */
    private static void aNewObjectMakesFew() throws IllegalAccessException {
        Set<Object> reached = Collections.newSetFromMap(new IdentityHashMap<>());
        long parts = partsOf(new ChangeRows(), reached);
        check("a new object is " + reached.size() + " objects and arrays", reached.size() <= 130);
        check("a new object has " + parts + " fields and elements", parts <= 11000);
    }

    /** How many fields and elements an object has, with those of all that it reaches and that was not reached before. */
    private static long partsOf(Object object, Set<Object> reached) throws IllegalAccessException {
        if (object == null || !reached.add(object)) {
            return 0;
        }
        long parts = 0;
        if (object.getClass().isArray()) {
            parts += Array.getLength(object);
            if (object instanceof Object[] elements) {
                for (Object element : elements) {
                    parts += partsOf(element, reached);
                }
            }
            return parts;
        }
        for (Field f : object.getClass().getDeclaredFields()) {
            if (!Modifier.isStatic(f.getModifiers())) {
                f.setAccessible(true);
                parts += 1 + (f.getType().isPrimitive() ? 0 : partsOf(f.get(object), reached));
            }
        }
        return parts;
    }

    private static void check(String fault, boolean holds) {
        if (!holds) {
            wrong++;
            System.out.println(fault);
        }
    }
}
