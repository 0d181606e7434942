import java.lang.reflect.Constructor;
import java.lang.reflect.Field;
import java.lang.reflect.Method;
import java.lang.reflect.Modifier;
import java.util.Arrays;
import java.util.TreeSet;

/** The public face and the constants, and the rules of LANGUAGE.md that can be seen from outside. */
public final class FaceTest {
    private static final Check check = new Check();

    public static void main(String[] args) throws Exception {
        constants();
        methods();
        members();
        innerClasses();
        anyArguments();
        lastCalls();
        longUse();
        check.end();
    }

    private static void constants() throws Exception {
        String[] names = {"MISSING", "NO_INTENT", "ONE_WAY", "NO_WAY", "SINGULAR", "NOT_RISING", "NO_SCALE", "FULL", "LONG"};
        for (int i = 0; i < names.length; i++) {
            check.due(names[i], -1 - i, ColourLinker.class.getField(names[i]).getInt(null));
        }
        check.due("number of public fields", names.length, ColourLinker.class.getFields().length);
    }

    private static void methods() {
        String[] due = {
            "boolean add(int, int)", "boolean set(int, int)", "void clear()", "int size()", "int at(int)", "int parse()",
            "int profiles()", "int elements(int)", "boolean same(int, int)", "int write(int)",
            "int curve(int, int, int, boolean)", "int link(int, int, int, boolean)", "int extend(int, int, int, boolean)",
            "int links()", "int pieces(int)", "int piece(int, int)", "long convert(int, int, int, int)",
            "long after(int, int, int, int, int)", "int work()"};
        TreeSet<String> got = new TreeSet<>();
        for (Method m : ColourLinker.class.getDeclaredMethods()) {
            if (!Modifier.isPrivate(m.getModifiers())) {
                String parameters = Arrays.toString(m.getParameterTypes()).replace("[", "(").replace("]", ")");
                got.add(m.getReturnType() + " " + m.getName() + parameters);
                check.due(m.getName() + " is public and of the object", Modifier.PUBLIC, m.getModifiers());
            }
        }
        check.due("the methods are " + got, true, got.equals(new TreeSet<>(Arrays.asList(due))));
        Constructor<?>[] constructors = ColourLinker.class.getDeclaredConstructors();
        check.due("constructors", 1, constructors.length);
        check.due("its parameters", 0, constructors[0].getParameterCount());
        check.due("it is public", Modifier.PUBLIC, constructors[0].getModifiers());
        check.due("the class", Modifier.PUBLIC | Modifier.FINAL, ColourLinker.class.getModifiers());
    }

    private static void members() {
        TreeSet<String> face = new TreeSet<>();
        for (Method m : ColourLinker.class.getDeclaredMethods()) {
            if (Modifier.isPublic(m.getModifiers())) {
                face.add(m.getName());
            }
        }
        for (Class<?> c : ColourLinker.class.getDeclaredClasses()) {
            for (Method m : c.getDeclaredMethods()) {
                check.due(c.getName() + "." + m.getName() + " has a name of its own", false, face.contains(m.getName()));
                check.due(c.getName() + "." + m.getName() + " has at most seven parameters", true, m.getParameterCount() <= 7);
            }
        }
        for (Method m : ColourLinker.class.getDeclaredMethods()) {
            boolean hidden = Modifier.isPrivate(m.getModifiers());
            check.due(m.getName() + " has a name of its own", false, hidden && face.contains(m.getName()));
            check.due(m.getName() + " has at most seven parameters", true, m.getParameterCount() <= 7);
        }
        for (Field f : ColourLinker.class.getDeclaredFields()) {
            check.due(f.getName() + " is private or of the face", true,
                Modifier.isPrivate(f.getModifiers()) || Modifier.isPublic(f.getModifiers()) && f.getType() == int.class);
        }
    }

    private static void innerClasses() {
        Class<?>[] classes = ColourLinker.class.getDeclaredClasses();
        check.due("at most twelve classes", true, classes.length + 1 <= 12);
        for (Class<?> c : classes) {
            check.due(c.getName() + " is private and static", true,
                Modifier.isPrivate(c.getModifiers()) && Modifier.isStatic(c.getModifiers()));
            for (Field f : c.getDeclaredFields()) {
                boolean constant = Modifier.isFinal(f.getModifiers());
                check.due(c.getName() + "." + f.getName() + " is no static state", true,
                    !Modifier.isStatic(f.getModifiers()) || constant);
            }
            for (Constructor<?> k : c.getDeclaredConstructors()) {
                check.due(c.getName() + " takes at most seven parameters", true, k.getParameterCount() <= 7);
            }
        }
    }

    /** No call throws or fails to end, whatever its arguments are. */
    private static void anyArguments() {
        int[] odd = {Integer.MIN_VALUE, -65536, -2, -1, 0, 1, 4, 255, 256, 65535, 65536, Integer.MAX_VALUE};
        for (int state = 0; state < 3; state++) {
            for (int a : odd) {
                for (int b : odd) {
                    callAll(state, a, b);
                }
            }
        }
    }

    private static void callAll(int state, int a, int b) {
        ColourLinker x = new ColourLinker();
        if (state > 0) {
            Draft.shaped().parseInto(x);
            Draft.gray(1).parseInto(x);
        }
        if (state > 1) {
            x.link(0, 1, 0, true);
            x.extend(0, 0, 3, false);
        }
        x.at(a);
        x.elements(a);
        x.same(a, b);
        x.curve(a, b, b, true);
        x.curve(0, a, b, false);
        x.link(a, b, 0, true);
        x.link(0, a, b, true);
        x.extend(a, b, 0, false);
        x.extend(0, a, b, true);
        x.pieces(a);
        x.piece(a, b);
        x.convert(a, b, b, b);
        x.convert(0, a, b, a);
        x.after(a, b, b, a, a);
        x.after(0, a, b, b, b);
        x.write(a);
        x.set(a, b);
        x.add(a, b);
        x.parse();
        check.due("a call with odd arguments goes through", true, x.size() >= 0);
    }

    /** An object is used for at most 512 calls: the last of them are answered like the first. */
    private static void lastCalls() {
        ColourLinker x = new ColourLinker();
        int[] words = {0x00100201, 0x00000100, 0x010C0200, 0x01000000};
        int calls = 0;
        for (; calls < 500; calls++) {
            check.due("add in call " + (calls + 1), calls < 64, x.add(calls, 4));
        }
        x.clear();
        calls++;
        for (int w : words) {
            check.due("add in call " + ++calls, true, x.add(w, 4));
        }
        check.due("parse in call " + ++calls, 0, x.parse());
        check.due("same in call " + ++calls, true, x.same(0, 0));
        check.due("link in call " + ++calls, 0, x.link(0, 0, 0, false));
        check.due("extend in call " + ++calls, 1, x.extend(0, 0, 0, false));
        check.due("convert in call " + ++calls, Check.colour(54321, 0, 0), x.convert(1, 54321, 0, 0));
        check.due("work in call " + ++calls, 4, x.work());
        check.due("write in call " + ++calls, 16, x.write(0));
        check.due("the last call", 512, calls);
    }

    /** What later calls answer is free, but they answer. */
    private static void longUse() {
        ColourLinker x = new ColourLinker();
        Draft.shaped().parseInto(x);
        x.link(0, 0, 0, false);
        for (int i = 0; i < 3000; i++) {
            x.add(i, 1 + i % 4);
            x.parse();
            x.write(i % 7);
            x.link(i % 6, i % 5, i % 4, i % 3 == 0);
            x.extend(i % 16, i % 6, i % 4, false);
            x.convert(i % 16, i, i, i);
        }
        check.due("profiles at last", true, x.profiles() <= 6);
        check.due("links at last", true, x.links() <= 16);
    }
}
