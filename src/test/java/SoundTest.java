import java.lang.reflect.Array;
import java.lang.reflect.Field;
import java.lang.reflect.Method;
import java.util.function.Consumer;

/**
 * No run of calls makes a house unsound: so this reaches into one, spoils one thing that isSound()
 * has to look at, and asks.
 */
public final class SoundTest {
    private SoundTest() {
    }

    public static void main(String[] args) {
        unsound("a cause heard behind", x -> swap(rowOf(x, 2), 3, 4));
        unsound("the first one of all heard behind", x -> swap(rowOf(x, 11), 0, 1));
        unsound("heard twice", x -> tell(rowOf(x, 2), "append", 4));
        unsound("it waits, and need not", x -> tell(of(placeOf(x, 2), "waits"), "add", 13));
        unsound("half 0 lacks a cause", x -> tell(of(of(x, "firstHalf"), "acts"), "remove", 0));
        unsound("half 1 lacks a cause", x -> tell(of(of(x, "secondHalf"), "acts"), "remove", 4));
        unsound("drawn otherwise", x -> tell(of(placeOf(x, 3), "heard"), "remove", 5));
        unsound("drawn otherwise, as long", x -> tell(of(placeOf(x, 3), "heard"), "remove", 12));
        unsound("an export that is not read again as it is drawn",
                x -> Array.set(of(of(x, "otherView"), "words"), 2, null));
        unsound("that of the first place alone", x -> Array.set(of(of(x, "otherView"), "words"), 13, null));
        unsound("the first place alone drawn otherwise", x -> {
            x.carryAll(1);
            tell(of(placeOf(x, 0), "heard"), "add", Towns.word(x, 2, 0));
        });
        soundWhileParted();
        for (int room = 0; room < Towns.ROOMS; room++) {
            int one = room;
            unsound("an act ahead of its causes by order", x -> swap(element(of(x, "orders"), one), 0, 1));
        }
        for (int place : new int[] {0, 1, 2, 3, 10, 11}) {
            unsound("the first one of all heard behind", x -> swap(rowOf(x, place), 0, 1));
            unsound("a cause heard behind", x -> swap(rowOf(x, place), 4, 5));
        }
        for (int act : new int[] {0, 1, 5, 7, 9, 11}) {
            unsound("half 0 lacks a cause", x -> tell(of(of(x, "firstHalf"), "acts"), "remove", act));
            unsound("half 1 lacks a cause", x -> tell(of(of(x, "secondHalf"), "acts"), "remove", act));
        }
        Check.finish("SoundTest");
    }

    /**
     * Members 0, 1 and 5 in room 0: words 2 to 5 are heard at all places, word 6 at place 0 alone;
     * two acts each in rooms 2 and 1; then two edits of word 2 in room 0, heard at all places.
     */
    private static Roomtalk house() {
        Roomtalk x = new Roomtalk();
        x.enter(2, 0);
        x.enter(10, 0);
        Towns.hearAll(x);
        for (int k = 2; k < 6; k++) {
            x.say(0, 0, k == 2 ? -1 : k - 1, k, -1, -1);
        }
        Towns.hearAll(x);
        x.say(0, 0, -1, 0, -1, -1);
        x.say(4, 2, -1, 0, -1, -1);
        x.say(4, 2, 7, 0, -1, -1);
        x.say(2, 1, -1, 0, -1, -1);
        x.say(2, 1, 9, 0, -1, -1);
        x.edit(1, 2, 5, -1);
        x.edit(1, 2, 6, -1);
        Towns.hearAll(x);
        x.say(0, 0, -1, 0, -1, -1);
        return x;
    }

    private static void unsound(String what, Consumer<Roomtalk> spoil) {
        Roomtalk x = house();
        Check.same("before: " + what, true, x.isSound());
        long before = x.digest();
        spoil.accept(x);
        Check.same(what, false, x.isSound());
        Check.same("the digest tells of it: " + what, false, before == x.digest());
    }

    /** A half need not have what the other one has. */
    private static void soundWhileParted() {
        Roomtalk x = Towns.threeIn();
        x.sit(1, 1);
        x.part();
        for (int k = 0; k < 3; k++) {
            Towns.word(x, 0, 0);
            Towns.word(x, 2, 0);
        }
        Check.same("half 0 alone has 2, 4 and 6", 5, x.house(2));
        Check.same("half 1 alone has 3, 5 and 7", 5, x.house(3));
        Check.same("parted", true, x.isSound());
        tell(of(of(x, "firstHalf"), "acts"), "remove", 6);
        Check.same("half 0 without its last act", true, x.isSound());
        tell(of(of(x, "secondHalf"), "acts"), "remove", 7);
        Check.same("half 1 without its last act", true, x.isSound());
        tell(of(of(x, "secondHalf"), "acts"), "remove", 3);
        Check.same("half 1 lacks a cause of the act 5", false, x.isSound());
    }

    private static Object placeOf(Roomtalk x, int number) {
        return element(of(x, "places"), number);
    }

    private static Object rowOf(Roomtalk x, int place) {
        return element(of(placeOf(x, place), "rows"), 0);
    }

    private static Object element(Object array, int index) {
        return Array.get(array, index);
    }

    private static void swap(Object line, int one, int other) {
        int[] items = (int[]) of(line, "items");
        int kept = items[one];
        items[one] = items[other];
        items[other] = kept;
    }

    private static Object of(Object object, String field) {
        try {
            Field found = object.getClass().getDeclaredField(field);
            found.setAccessible(true);
            return found.get(object);
        } catch (ReflectiveOperationException e) {
            throw new AssertionError(e);
        }
    }

    private static void tell(Object object, String method, int number) {
        try {
            Method found = object.getClass().getDeclaredMethod(method, int.class);
            found.setAccessible(true);
            found.invoke(object, number);
        } catch (ReflectiveOperationException e) {
            throw new AssertionError(e);
        }
    }
}
