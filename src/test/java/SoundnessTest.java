import java.lang.reflect.Array;
import java.lang.reflect.Field;

/** Promise 32: the parts of isSound that no call can make false are broken here from inside, by reflection. */
final class SoundnessTest {
    // Somebody breathes, air leaks, a scrubber fills the store, and twelve commands wait in the minute 70.
    private static Orbitdock scene() {
        Orbitdock x = Scene.alone(200);
        x.addRoom(100);
        x.setLeak(1, 1);
        Scene.turnOn(x, "se");
        x.pass(50);
        for (int i = 0; i < 12; i++) {
            x.send('f', 0, 20, 5);
        }
        x.pass(20);
        return x;
    }

    // The number that a path of field names, and of places in rows, leads to becomes greater.
    private static void change(Orbitdock x, int more, Object... path) {
        try {
            Object owner = fieldOf(x, "now").get(x);
            for (int i = 0; i < path.length - 1; i++) {
                owner = fieldOf(owner, (String) path[i]).get(owner);
            }
            Object last = path[path.length - 1];
            if (last instanceof Integer) {
                Array.setInt(owner, (int) last, Array.getInt(owner, (int) last) + more);
            } else {
                Field field = fieldOf(owner, (String) last);
                field.setInt(owner, field.getInt(owner) + more);
            }
        } catch (ReflectiveOperationException e) {
            throw new AssertionError(e);
        }
    }

    private static Field fieldOf(Object owner, String name) throws NoSuchFieldException {
        Field field = owner.getClass().getDeclaredField(name);
        field.setAccessible(true);
        return field;
    }

    private static final Object[][] MASS = {
        {"rooms", "oxygen", 0}, {"rooms", "oxygen", 1}, {"rooms", "carbon", 0}, {"rooms", "carbon", 1},
        {"rooms", "leaked"}, {"tank"}, {"store"},
    };

    static void promise32TheSceneIsSound() {
        Expect.same("sound", true, scene().isSound());
        Expect.same("its events", 0, scene().events());
    }

    static void promise32NoticesAUnitTooMuchOrTooFew() {
        for (Object[] place : MASS) {
            Orbitdock x = scene();
            change(x, 1, place);
            Expect.same("sound with 1 more in " + String.join(".", namesIn(place)), false, x.isSound());
            change(x, -2, place);
            Expect.same("sound with 1 less in " + String.join(".", namesIn(place)), false, x.isSound());
            change(x, 1, place);
            Expect.same("sound again", true, x.isSound());
        }
    }

    private static String[] namesIn(Object[] path) {
        String[] names = new String[path.length];
        for (int i = 0; i < path.length; i++) {
            names[i] = String.valueOf(path[i]);
        }
        return names;
    }

    static void promise32CountsAUnitWhereverItIs() {
        for (Object[] from : MASS) {
            for (Object[] to : MASS) {
                Orbitdock x = scene();
                change(x, -1, from);
                change(x, 1, to);
                Expect.same("sound", true, x.isSound());
            }
        }
    }

    static void promise32NoticesWhatNeverCame() {
        Orbitdock x = scene();
        change(x, 1, "came");
        Expect.same("sound", false, x.isSound());
        change(x, 1, "tank");
        Expect.same("sound with one more in the tank", true, x.isSound());
    }

    static void promise32KnowsTheBoundsOfTheBattery() {
        Orbitdock x = scene();
        int[] charges = {-1, 0, 1, 199, 200, 201};
        boolean[] due = {false, true, true, true, true, false};
        for (int i = 0; i < charges.length; i++) {
            change(x, charges[i] - x.battery(), "battery");
            Expect.same("sound with a charge of " + charges[i], due[i], x.isSound());
        }
    }

    // In the minute 70 each of the twelve arrives, with a life of 5.
    static void promise32NoticesACommandThatIsOverdue() {
        int[] ago = {0, 5, 6, 7, 60};
        boolean[] due = {true, true, true, false, false};
        for (int command : new int[] {0, 5, 11}) {
            for (int i = 0; i < ago.length; i++) {
                Orbitdock x = scene();
                change(x, -ago[i], "commands", "arrival", command);
                Expect.same("sound with an arrival " + ago[i] + " minutes ago", due[i], x.isSound());
            }
        }
    }

    static void promise32LooksAtEachCommandsOwnLife() {
        Orbitdock x = scene();
        change(x, -7, "commands", "arrival", 3);
        Expect.same("sound, 7 minutes ago with a life of 5", false, x.isSound());
        change(x, 1, "commands", "life", 3);
        Expect.same("sound, 7 minutes ago with a life of 6", true, x.isSound());
        change(x, -1, "commands", "arrival", 4);
        change(x, -5, "commands", "life", 4);
        Expect.same("sound, 1 minute ago with a life of 0", true, x.isSound());
        change(x, -1, "commands", "arrival", 4);
        Expect.same("sound, 2 minutes ago with a life of 0", false, x.isSound());
    }
}
