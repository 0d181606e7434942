/** Promises 1 to 6: a new object, add, set, clear, size, at. */
public final class BufferTest {
    private static final Check check = new Check();

    public static void main(String[] args) {
        newObject();
        append();
        appendRefused();
        fillUp();
        replace();
        empty();
        apart();
        check.end();
    }

    private static void newObject() {
        ColourLinker x = new ColourLinker();
        check.due("size of a new object", 0, x.size());
        check.due("at(0) of a new object", -1, x.at(0));
        check.due("set(0, 0) of a new object", false, x.set(0, 0));
        check.due("profiles of a new object", 0, x.profiles());
        check.due("links of a new object", 0, x.links());
        check.due("work of a new object", 0, x.work());
        check.due("parse of a new object", -1000, x.parse());
        check.due("elements of a new object", -1, x.elements(0));
        check.due("same of a new object", false, x.same(0, 0));
        check.due("pieces of a new object", -1, x.pieces(0));
        check.due("convert of a new object", -1, x.convert(0, 0, 0, 0));
    }

    private static void append() {
        ColourLinker x = new ColourLinker();
        check.due("add of four", true, x.add(0x01020304, 4));
        check.due("add of three", true, x.add(0xF5060708, 3));
        check.due("add of two", true, x.add(-2, 2));
        check.due("add of one", true, x.add(0x1FF, 1));
        int[] want = {1, 2, 3, 4, 6, 7, 8, 255, 254, 255};
        check.due("size", want.length, x.size());
        for (int i = 0; i < want.length; i++) {
            check.due("at(" + i + ")", want[i], x.at(i));
        }
        check.due("at behind the end", -1, x.at(want.length));
        check.due("at(-1)", -1, x.at(-1));
        check.due("at of the greatest", -1, x.at(Integer.MAX_VALUE));
        check.due("at of the least", -1, x.at(Integer.MIN_VALUE));
    }

    private static void appendRefused() {
        ColourLinker x = new ColourLinker();
        x.add(7, 1);
        int[] wrong = {0, 5, -1, 256, Integer.MAX_VALUE, Integer.MIN_VALUE};
        for (int n : wrong) {
            check.due("add of " + n, false, x.add(1, n));
            check.due("size after a refused add", 1, x.size());
        }
        check.due("byte 0 after refused adds", 7, x.at(0));
    }

    private static void fillUp() {
        ColourLinker x = new ColourLinker();
        for (int i = 0; i < 63; i++) {
            check.due("add up to 252", true, x.add(i, 4));
        }
        check.due("add up to 255", true, x.add(0x123456, 3));
        check.due("add over 256 by one", false, x.add(0, 2));
        check.due("add over 256 by three", false, x.add(0, 4));
        check.due("size of 255", 255, x.size());
        check.due("add up to 256", true, x.add(99, 1));
        check.due("size of 256", 256, x.size());
        check.due("the last byte", 99, x.at(255));
        check.due("add to a full buffer", false, x.add(0, 1));
        check.due("at(256)", -1, x.at(256));
        check.due("set(255, 0)", true, x.set(255, 0));
        check.due("set(256, 0)", false, x.set(256, 0));
    }

    private static void replace() {
        ColourLinker x = new ColourLinker();
        x.add(0x01020304, 4);
        check.due("set(0, 255)", true, x.set(0, 255));
        check.due("set(3, 0)", true, x.set(3, 0));
        check.due("set(4, 0)", false, x.set(4, 0));
        check.due("set(-1, 0)", false, x.set(-1, 0));
        check.due("set(1, 256)", false, x.set(1, 256));
        check.due("set(1, -1)", false, x.set(1, -1));
        check.due("at(0)", 255, x.at(0));
        check.due("at(1)", 2, x.at(1));
        check.due("at(2)", 3, x.at(2));
        check.due("at(3)", 0, x.at(3));
        check.due("size after set", 4, x.size());
    }

    private static void empty() {
        ColourLinker x = new ColourLinker();
        Draft.gray(0).parseInto(x);
        x.link(0, 0, 0, false);
        x.clear();
        check.due("size after clear", 0, x.size());
        check.due("at(0) after clear", -1, x.at(0));
        check.due("set(0, 1) after clear", false, x.set(0, 1));
        check.due("profiles after clear", 1, x.profiles());
        check.due("links after clear", 1, x.links());
        x.clear();
        check.due("add after clear", true, x.add(5, 1));
        check.due("at(0) after clear and add", 5, x.at(0));
    }

    private static void apart() {
        ColourLinker one = new ColourLinker();
        ColourLinker other = new ColourLinker();
        one.add(1, 1);
        check.due("size of another object", 0, other.size());
    }
}
