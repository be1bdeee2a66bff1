import java.lang.reflect.Array;
import java.lang.reflect.Field;
import java.lang.reflect.Method;
import java.util.function.Consumer;

/**
 * No run of calls makes a house unsound: so this reaches into one, spoils one thing that isSound()
 * has to look at, and asks.
 */
public final class SoundTest {
    private SoundTest() {
    }

    public static void main(String[] args) {
        unsound("a cause heard behind", x -> swap(rowOf(x, 2), 3, 4));
        unsound("the first one of all heard behind", x -> swap(rowOf(x, 11), 0, 1));
        unsound("heard twice", x -> tell(rowOf(x, 2), "append", 4));
        unsound("it waits, and need not", x -> tell(of(placeOf(x, 2), "waits"), "add", 6));
        unsound("half 0 lacks a cause", x -> tell(of(of(x, "firstHalf"), "acts"), "remove", 0));
        unsound("half 1 lacks a cause", x -> tell(of(of(x, "secondHalf"), "acts"), "remove", 4));
        unsound("drawn otherwise", x -> tell(of(placeOf(x, 3), "heard"), "remove", 5));
        unsound("an act ahead of its causes by order", x -> swap(element(of(x, "orders"), 0), 4, 5));
        unsound("in the last room, too", x -> swap(element(of(x, "orders"), 2), 0, 1));
        Check.finish("SoundTest");
    }

    /** Members 0, 1 and 5 in room 0, words 2 to 5 heard at all places, word 6 at place 0 alone; two acts in room 2. */
    private static Roomtalk house() {
        Roomtalk x = new Roomtalk();
        x.enter(2, 0);
        x.enter(10, 0);
        Towns.hearAll(x);
        for (int k = 2; k < 6; k++) {
            x.say(0, 0, k == 2 ? -1 : k - 1, k, -1, -1);
        }
        Towns.hearAll(x);
        x.say(0, 0, -1, 0, -1, -1);
        x.say(4, 2, -1, 0, -1, -1);
        x.say(4, 2, 7, 0, -1, -1);
        return x;
    }

    private static void unsound(String what, Consumer<Roomtalk> spoil) {
        Roomtalk x = house();
        Check.same("before: " + what, true, x.isSound());
        long before = x.digest();
        spoil.accept(x);
        Check.same(what, false, x.isSound());
        Check.same("the digest tells of it: " + what, false, before == x.digest());
    }

    private static Object placeOf(Roomtalk x, int number) {
        return element(of(x, "places"), number);
    }

    private static Object rowOf(Roomtalk x, int place) {
        return element(of(placeOf(x, place), "rows"), 0);
    }

    private static Object element(Object array, int index) {
        return Array.get(array, index);
    }

    private static void swap(Object line, int one, int other) {
        int[] items = (int[]) of(line, "items");
        int kept = items[one];
        items[one] = items[other];
        items[other] = kept;
    }

    private static Object of(Object object, String field) {
        try {
            Field found = object.getClass().getDeclaredField(field);
            found.setAccessible(true);
            return found.get(object);
        } catch (ReflectiveOperationException e) {
            throw new AssertionError(e);
        }
    }

    private static void tell(Object object, String method, int number) {
        try {
            Method found = object.getClass().getDeclaredMethod(method, int.class);
            found.setAccessible(true);
            found.invoke(object, number);
        } catch (ReflectiveOperationException e) {
            throw new AssertionError(e);
        }
    }
}
