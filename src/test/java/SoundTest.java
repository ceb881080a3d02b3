import java.io.IOException;
import java.lang.reflect.Method;
import java.nio.file.Files;
import java.nio.file.Path;

/**
 * Promise 50, part by part. No run of calls makes an index that is not sound; so a fault is put into the text of
 * the program, one that no other part of isSound() tells, and that program is asked. Each fault stands for lines
 * of Twinindex.java: where they change, it has to be told anew.
 */
public final class SoundTest {
    private static String program;

    private SoundTest() {
    }

    /** The second argument: the path of Twinindex.java. */
    public static void main(String[] args) throws IOException, ReflectiveOperationException {
        program = Files.readString(Path.of(args[1]));
        Check.same(50, "isSound() without a fault", isSound(program), true);
        neighbours();
        halves();
        turned();
        copy();
        sumByUse();
        Check.end("SoundTest");
    }

    private static void neighbours() throws ReflectiveOperationException {
        tells("the KEY below is another one",
                "place = Math.min(countBelow(key) - 1, last);", "place = Math.min(countBelow(key) - 2, last);");
        tells("the KEY not above is the one below",
                "place = Math.min(countNotAbove(key) - 1, last);", "place = Math.min(countBelow(key) - 1, last);");
        tells("the KEY not below is the one above",
                "place = Math.max(countBelow(key), start);", "place = Math.max(countNotAbove(key), start);");
        tells("the KEY above is the one not below",
                "place = Math.max(countNotAbove(key), start);", "place = Math.max(countBelow(key), start);");
    }

    private static void halves() throws ReflectiveOperationException {
        tells("a RANGE has its first KEY not",
                "return countNotAbove(to) - countBelow(from);", "return countNotAbove(to) - countNotAbove(from);");
    }

    private static void turned() throws ReflectiveOperationException {
        tells("the last KEY is not found from above",
                "place = Math.min(countNotAbove(key) - 1, last);", "place = holds(key) ? countBelow(key) : NOWHERE;");
    }

    /** The PAIR that the copy loses is 7=7, which adds nothing to the hash(). */
    private static void copy() throws ReflectiveOperationException {
        tells("a copy loses a PAIR", "filled = other.filled;", "filled = other.filled - 1;");
    }

    private static void sumByUse() throws ReflectiveOperationException {
        tells("hash() is another sum",
                "sum += keyAt(place) ^ valueAt(place);", "sum += keyAt(place) + valueAt(place);");
    }

    private static void tells(String fault, String text, String instead) throws ReflectiveOperationException {
        boolean isThereOnce = program.contains(text) && program.indexOf(text) == program.lastIndexOf(text);
        Check.same(50, "the program has just once: " + text, isThereOnce, true);
        Check.same(50, "isSound() where " + fault, isSound(program.replace(text, instead)), false);
    }

    private static Object isSound(String text) throws ReflectiveOperationException {
        Class<?> type = Compiled.of("Twinindex", text);
        Object index = type.getConstructor().newInstance();
        Method put = type.getMethod("put", int.class, int.class);
        for (int key = 7; key >= 5; key--) {
            put.invoke(index, key, key == 7 ? 7 : 2);
        }
        return type.getMethod("isSound").invoke(index);
    }
}
