import java.lang.reflect.Constructor;
import java.lang.reflect.Field;
import java.lang.reflect.Member;
import java.lang.reflect.Method;
import java.lang.reflect.Modifier;
import java.util.TreeSet;

/** The public face: just the constants, the constructor and the methods of the document. */
final class FaceTest {
    private static final String[] METHODS = {
        "build(int,boolean)", "clearText()", "count(int)", "doneIn()", "keep()", "leastDepth(int)", "pass(int)",
        "place(int,int)", "push(int)", "pushAll()", "restore()", "set(int,int)", "setClock(int,int,int)",
        "side(int,int)", "start(int,boolean)", "taken(int)", "type(char)", "undo()", "waiting(int)"
    };
    private static final int[] EXTREMES = {
        Integer.MIN_VALUE, Integer.MIN_VALUE + 1, -1000001, -101, -2, -1, 0, 1, 2, 3, 15, 16, 99, 100, 500, 501,
        1 << 16, 1000000, Integer.MAX_VALUE - 1, Integer.MAX_VALUE
    };

    private FaceTest() {
    }

    static void run() {
        theConstants();
        theMembers();
        nothingIsThrown();
    }

    private static void theConstants() {
        Due.is("UNKNOWN", -1, GrayPointers.UNKNOWN);
        Due.is("BAD_VALUE", -2, GrayPointers.BAD_VALUE);
        Due.is("FULL", -3, GrayPointers.FULL);
        Due.is("NOT_POSSIBLE", -4, GrayPointers.NOT_POSSIBLE);
        Due.is("NONE", -5, GrayPointers.NONE);
    }

    private static void theMembers() {
        Class<?> face = GrayPointers.class;
        Due.isTrue("public and final", Modifier.isPublic(face.getModifiers()) && Modifier.isFinal(face.getModifiers()));
        TreeSet<String> open = new TreeSet<>();
        TreeSet<String> closed = new TreeSet<>();
        for (Method method : face.getDeclaredMethods()) {
            String name = method.toGenericString().replaceAll("^.*GrayPointers\\.", "");
            if (Modifier.isPublic(method.getModifiers())) {
                open.add(name);
                Due.isTrue(name + " answers int", method.getReturnType() == int.class);
            } else {
                closed.add(method.getName());
                Due.isTrue(name + " is private", Modifier.isPrivate(method.getModifiers()));
            }
        }
        Due.isTrue("the public methods are " + open, String.join(" ", open).equals(String.join(" ", METHODS)));
        for (String name : open) {
            String bare = name.substring(0, name.indexOf('('));
            Due.isTrue("no private method is named " + bare, !closed.contains(bare));
        }
        int constants = 0;
        for (Field field : face.getDeclaredFields()) {
            constants += Modifier.isPublic(field.getModifiers()) ? 1 : 0;
            Due.isTrue(field.getName() + " is closed or a constant", isPrivate(field) || isConstant(field));
        }
        Due.is("public constants", 5, constants);
        Constructor<?>[] constructors = face.getDeclaredConstructors();
        Due.is("constructors", 1, constructors.length);
        Due.isTrue("it is public", Modifier.isPublic(constructors[0].getModifiers()));
        Due.is("it takes nothing", 0, constructors[0].getParameterCount());
    }

    private static boolean isPrivate(Member member) {
        return Modifier.isPrivate(member.getModifiers());
    }

    private static boolean isConstant(Field field) {
        int modifiers = field.getModifiers();
        return Modifier.isPublic(modifiers) && Modifier.isStatic(modifiers) && Modifier.isFinal(modifiers);
    }

    /** What is thrown ends the run of the tests; errors must leave the object as it was. */
    private static void nothingIsThrown() {
        GrayPointers x = new GrayPointers();
        for (int a : EXTREMES) {
            x.build(a, (a & 1) == 0);
            x.start(a, (a & 1) != 0);
            x.push(a);
            x.pass(a);
            x.type((char) a);
            x.pushAll();
            x.waiting(a);
            x.taken(a);
            x.leastDepth(a);
            x.count(a);
            for (int b : EXTREMES) {
                x.set(a, b);
                x.side(a, b);
                x.place(a, b);
                for (int c : EXTREMES) {
                    x.setClock(a, b, c);
                }
            }
            x.doneIn();
        }
        Due.isTrue("the object goes on", x.count(0) >= 0);
    }
}
