import java.lang.reflect.Field;
import java.util.List;

/** isSound tells of an archive that no call can make: these are broken from within, by the names of private fields. */
public final class BrokenArchiveTest {
    private static final Checks CHECKS = new Checks();

    private BrokenArchiveTest() {
    }

    public static void main(String[] args) {
        for (int broken = 0; broken < 3; broken++) {
            int entry = broken;
            Patiencearchive whole = archive();
            CHECKS.is("as the calls leave it", true, whole::isSound);

            Patiencearchive wrongMove = archive();
            ((int[]) get(get(entry(wrongMove, entry), "key"), "cells"))[0] = 19;
            CHECKS.is("a key of a move that cannot be made, at " + entry, false, wrongMove::isSound);

            Patiencearchive half = archive();
            set(get(entry(half, entry), "key"), "size", 1);
            CHECKS.is("a key that solves half of its deal, at " + entry, false, half::isSound);

            Patiencearchive fewCopies = archive();
            fewCopies.lend(0, entry);
            CHECKS.is("a copy that is lent", true, fewCopies::isSound);
            set(entry(fewCopies, entry), "copies", 0);
            CHECKS.is("more copies lent than there are, at " + entry, false, fewCopies::isSound);
        }
        CHECKS.is("two entries of one key and like deals", false, twins()::isSound);
        CHECKS.end("BrokenArchiveTest");
    }

    /** Three entries that are solved by '9 9' or '9 9 9', and an open one like the first. */
    private static Patiencearchive archive() {
        Patiencearchive x = new Patiencearchive();
        x.player();
        Scene.add(x, Scene.pile(2, 1), Scene.pile());
        Scene.add(x, Scene.pile(1, 11), Scene.pile());
        Scene.add(x, Scene.pile(3, 2, 1), Scene.pile());
        Scene.add(x, Scene.pile(12, 11), Scene.pile());
        for (int entry = 0; entry < 3; entry++) {
            x.solve(entry, 100);
        }
        return x;
    }

    private static Patiencearchive twins() {
        Patiencearchive x = archive();
        Object open = entry(x, 3);
        int[] key = (int[]) get(get(open, "key"), "cells");
        key[0] = 9;
        key[1] = 9;
        set(get(open, "key"), "size", 2);
        set(open, "state", 's');
        return x;
    }

    private static Object entry(Patiencearchive x, int entry) {
        return ((List<?>) get(x, "entries")).get(entry);
    }

    private static Field field(Object of, String name) {
        try {
            Field field = of.getClass().getDeclaredField(name);
            field.setAccessible(true);
            return field;
        } catch (NoSuchFieldException e) {
            throw new IllegalStateException(e);
        }
    }

    private static Object get(Object of, String name) {
        try {
            return field(of, name).get(of);
        } catch (IllegalAccessException e) {
            throw new IllegalStateException(e);
        }
    }

    private static void set(Object of, String name, Object value) {
        try {
            field(of, name).set(of, value);
        } catch (IllegalAccessException e) {
            throw new IllegalStateException(e);
        }
    }
}
