import java.lang.reflect.Field;
import java.lang.reflect.Method;

/** Promises 48 to 51: the whole. */
public final class WholeTest {
    private static final Class<?> ILLEGAL = IllegalArgumentException.class;

    public static void main(String[] args) throws ReflectiveOperationException {
        house();
        knock();
        isSound();
        isSoundTellsFaults();
        isSoundTellsFaultsThatNoSumTells();
        digestOfNone();
        digest();
        digestWrapsAround();
        Check.end("WholeTest");
    }

    private static void house() {
        Twinindex x = Check.with(1, 10, 2, 20, 3, 30);
        x.copy();
        x.remove(3);
        x.next(0, 1);
        x.next(2, 1);
        x.knock();
        Check.asks(48, "house(0)", x, () -> x.house(0), 2);
        Check.asks(48, "house(1)", x, () -> x.house(1), 4);
        Check.asks(48, "house(2)", x, () -> x.house(2), 3);
        Check.asks(48, "house(3)", x, () -> x.house(3), 2);
        Check.asks(48, "house(4)", x, () -> x.house(4), 1);
        x.page(2);
        Check.same(48, "house(3)", x.house(3), 1);
        Check.refuses(48, "house(-1)", x, ILLEGAL, () -> x.house(-1));
        Check.refuses(48, "house(5)", x, ILLEGAL, () -> x.house(5));
    }

    private static void knock() {
        Twinindex x = Check.with(1, 10);
        Check.same(49, "knock()", x.knock(), 1);
        Check.same(49, "knock()", x.knock(), 2);
        x.clear();
        x.undo();
        x.forget();
        Check.same(49, "knock()", x.knock(), 3);
        Check.same(49, "steps()", x.steps(), 0);
        Check.same(49, "text()", x.text(), "{1=10}");
        Check.same(49, "another object's knock()", new Twinindex().knock(), 1);
    }

    private static void isSound() {
        Twinindex none = new Twinindex();
        Check.asks(50, "isSound() of none", none, none::isSound, true);
        Twinindex ends = Check.with(Check.GREATEST, 1, Check.LEAST, 2);
        Check.asks(50, "isSound() of the ends", ends, ends::isSound, true);
        Twinindex full = Check.full();
        full.get(10);
        full.copy();
        full.poll(true);
        full.undo();
        Check.asks(50, "isSound() of 24", full, full::isSound, true);
    }

    /** No run of calls makes an index that is not sound: the test reaches inside. */
    private static void isSoundTellsFaults() throws ReflectiveOperationException {
        Twinindex fewer = Check.with(1, 10, 2, 20);
        Twinindex one = Check.with(1, 10);
        become(inside(fewer, "byUse"), inside(one, "byUse"));
        Check.same(50, "isSound() with a KEY less BY USE", fewer.isSound(), false);
        become(inside(one, "byUse"), inside(Check.with(1, 10, 2, 20), "byUse"));
        Check.same(50, "isSound() with a KEY more BY USE", one.isSound(), false);
        Twinindex other = Check.with(1, 10, 2, 20);
        int[] uses = cells(inside(other, "byUse"));
        uses[0] = 7;
        Check.same(50, "isSound() with another KEY BY USE", other.isSound(), false);
        Check.same(51, "digest() of one that is not sound", other.digest(), Check.digestOf(2, 2, 0, 0, 0,
                1, 10, 2, 20, 7, 2, 0, 2, 0, 0, 0, 2, 0, 0, 0, 2, 0, 0, (1 ^ 10) + (2 ^ 20), 12, 2, 0));
        uses[0] = 2;
        Check.same(50, "isSound() with a KEY twice BY USE", other.isSound(), false);
        uses[0] = 1;
        Check.same(50, "isSound() when mended", other.isSound(), true);
        int[] keys = cells(inside(inside(other, "pairs"), "sheetKeys"));
        keys[0] = 2;
        keys[1] = 1;
        Check.same(50, "isSound() with turned KEYS", other.isSound(), false);
        keys[0] = 1;
        Check.same(50, "isSound() with a KEY twice BY KEYS", other.isSound(), false);
    }

    /** Each of these KEYS BY USE has the sum that hash() has; with a VALUE of 0 a KEY adds itself. */
    private static void isSoundTellsFaultsThatNoSumTells() throws ReflectiveOperationException {
        Twinindex other = Check.with(1, 0, 2, 0, 3, 0);
        int[] uses = cells(inside(other, "byUse"));
        uses[0] = 2;
        uses[2] = 2;
        Check.same(50, "isSound() with BY USE 2 2 2", other.isSound(), false);
        uses[0] = 0;
        uses[1] = 1000;
        uses[2] = 6 - (0 ^ Check.NONE) - (1000 ^ Check.NONE) ^ Check.NONE;
        Check.same(50, "isSound() with other KEYS BY USE", other.isSound(), false);
        Twinindex one = Check.with(0, 0, 5, 0);
        become(inside(one, "byUse"), inside(Check.with(0, 0, 5, 0, 6, 0), "byUse"));
        cells(inside(one, "byUse"))[2] = 0;
        Check.same(50, "isSound() with BY USE 0 5 0", one.isSound(), false);
        cells(inside(one, "byUse"))[2] = Check.NONE;
        Check.same(50, "isSound() with -1000 BY USE as well", one.isSound(), false);
    }

    private static void become(Object row, Object other) throws ReflectiveOperationException {
        Method become = row.getClass().getDeclaredMethod("become", row.getClass());
        become.setAccessible(true);
        become.invoke(row, other);
    }

    private static Object inside(Object object, String name) throws ReflectiveOperationException {
        Field field = object.getClass().getDeclaredField(name);
        field.setAccessible(true);
        return field.get(object);
    }

    private static int[] cells(Object row) throws ReflectiveOperationException {
        return (int[]) inside(row, "cells");
    }

    private static void digestOfNone() {
        Twinindex x = new Twinindex();
        long due = Check.digestOf(0, 0, 0, 0, 0, 0, 0, 0, 0, 0, 0, 0, 0, 0, 0, 0, 0, 0, 2, 0, 1);
        Check.asks(51, "digest() of none", x, x::digest, due);
    }

    private static void digest() {
        Twinindex x = Check.with(5, -3, 2, 20);
        x.copy();
        x.put(5, 7);
        x.get(2);
        x.next(1, 1);
        x.knock();
        long due = Check.digestOf(2, 3, 2, 1, 1, 2, 20, 5, 7, 5, 2,
                0, 2, 0, 0, 1, 1, 1, 2, 0, 2, 0, 0,
                (2 ^ 20) + (5 ^ 7), "{2=20, 5=7}".length(), 1, 1);
        Check.asks(51, "digest()", x, x::digest, due);
    }

    private static void digestWrapsAround() {
        Twinindex x = Check.with(Check.GREATEST, 0, Check.LEAST, 0, Check.GREATEST - 1, 999);
        int hash = Check.GREATEST + Check.LEAST + ((Check.GREATEST - 1) ^ 999);
        long due = Check.digestOf(3, 3, 0, 0, 0,
                Check.LEAST, 0, Check.GREATEST - 1, 999, Check.GREATEST, 0,
                Check.GREATEST, Check.LEAST, Check.GREATEST - 1,
                0, 3, 0, 0, 0, 3, 0, 0, 0, 3, 0, 0,
                hash, x.text().length(), 3, 1);
        Check.asks(51, "digest()", x, x::digest, due);
    }
}
