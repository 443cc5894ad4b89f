import java.util.function.Supplier;

/** Promises 1 to 8: the station, its rooms, hatches, leaks, devices and panels. */
final class StationTest {
    private static final int[] NO_INDEX = {-1, 2, 6, 8, Integer.MIN_VALUE, Integer.MAX_VALUE};
    private static final Class<IllegalArgumentException> ARGUMENT = IllegalArgumentException.class;
    private static final Class<IndexOutOfBoundsException> INDEX = IndexOutOfBoundsException.class;
    private static final Class<IllegalStateException> STATE = IllegalStateException.class;

    static void promise1NewObjectIsEmpty() {
        Orbitdock x = new Orbitdock();
        Expect.same("water", 50, x.water());
        Expect.same("battery", 100, x.battery());
        Expect.same("isSafe", false, x.isSafe());
        Expect.same("events", 0, x.events());
        Expect.same("oxygen", INDEX, Expect.thrownBy(() -> x.oxygen(0)));
        Expect.same("whereIs", INDEX, Expect.thrownBy(() -> x.whereIs(0)));
        Expect.same("isOn", INDEX, Expect.thrownBy(() -> x.isOn(0)));
        Expect.same("distance", INDEX, Expect.thrownBy(() -> x.distance(0)));
        Expect.same("setHatch", INDEX, Expect.thrownBy(() -> x.setHatch(0, true)));
        Expect.same("the first minute's end", 1, x.pass(1));
    }

    static void promise1ObjectsShareNothing() {
        String fresh = Probe.everything(new Orbitdock());
        Probe.everything(Scene.fullStation());
        Expect.same("a new object", fresh, Probe.everything(new Orbitdock()));
    }

    static void promise2NumbersRoomsFromZero() {
        Orbitdock x = new Orbitdock();
        Expect.same("first", 0, x.addRoom(0));
        Expect.same("second", 1, x.addRoom(200));
        Expect.same("oxygen", 0, x.oxygen(0));
        Expect.same("oxygen", 200, x.oxygen(1));
        Expect.same("carbon", 0, x.carbon(1));
        Expect.same("leak", 0, x.setLeak(1, 0));
        for (int i = 2; i < 6; i++) {
            Expect.same("room", i, x.addRoom(i));
        }
    }

    static void promise2Refuses() {
        for (int oxygen : new int[] {-1, 201, Integer.MIN_VALUE, Integer.MAX_VALUE}) {
            Expect.refused("addRoom", ARGUMENT, Orbitdock::new, x -> x.addRoom(oxygen));
            Expect.refused("addRoom when full", ARGUMENT, Scene::fullStation, x -> x.addRoom(oxygen));
        }
        Expect.refused("addRoom", STATE, Scene::fullStation, x -> x.addRoom(0));
    }

    static void promise3NumbersHatchesFromZero() {
        Orbitdock x = Scene.twoRooms();
        for (int i = 0; i < 8; i++) {
            Expect.same("hatch", i, i % 2 == 0 ? x.addHatch(0, 1) : x.addHatch(1, 0));
        }
        for (int i = 0; i < 8; i++) {
            Expect.same("open at first", true, x.setHatch(i, false));
        }
    }

    static void promise3Refuses() {
        for (int no : NO_INDEX) {
            Expect.refused("addHatch", INDEX, Scene::twoRooms, x -> x.addHatch(no, 0));
            Expect.refused("addHatch", INDEX, Scene::twoRooms, x -> x.addHatch(0, no));
            Expect.refused("addHatch", INDEX, Scene::twoRooms, x -> x.addHatch(no, no));
        }
        Expect.refused("addHatch", ARGUMENT, Scene::twoRooms, x -> x.addHatch(1, 1));
        Expect.refused("addHatch when full", INDEX, Scene::fullStation, x -> x.addHatch(0, 6));
        Expect.refused("addHatch when full", ARGUMENT, Scene::fullStation, x -> x.addHatch(5, 5));
        Expect.refused("addHatch", STATE, Scene::fullStation, x -> x.addHatch(0, 5));
    }

    static void promise4OpensAndShuts() {
        Orbitdock x = Scene.twoRooms();
        x.addHatch(0, 1);
        x.addHatch(0, 1);
        Expect.same("was", true, x.setHatch(0, true));
        Expect.same("was", true, x.setHatch(0, false));
        Expect.same("was", false, x.setHatch(0, false));
        Expect.same("the other one was", true, x.setHatch(1, false));
        x.pass(1);
        Expect.same("oxygen behind shut hatches", 60, x.oxygen(0));
        Expect.same("was", false, x.setHatch(1, true));
        x.pass(1);
        Expect.same("oxygen behind an open hatch", 40, x.oxygen(0));
    }

    static void promise4Refuses() {
        Supplier<Orbitdock> scene = () -> {
            Orbitdock x = Scene.twoRooms();
            x.addHatch(0, 1);
            x.addHatch(1, 0);
            return x;
        };
        for (int no : NO_INDEX) {
            Expect.refused("setHatch", INDEX, scene, x -> x.setHatch(no, false));
        }
    }

    static void promise5SetsLeak() {
        Orbitdock x = Scene.twoRooms();
        Expect.same("before", 0, x.setLeak(0, 9));
        Expect.same("before", 9, x.setLeak(0, 4));
        Expect.same("before", 0, x.setLeak(1, 0));
        x.pass(3);
        Expect.same("leaky room", 48, x.oxygen(0));
        Expect.same("tight room", 20, x.oxygen(1));
    }

    static void promise5Refuses() {
        for (int no : NO_INDEX) {
            Expect.refused("setLeak", INDEX, Scene::twoRooms, x -> x.setLeak(no, 5));
            Expect.refused("setLeak", INDEX, Scene::twoRooms, x -> x.setLeak(no, 10));
        }
        for (int leak : new int[] {-1, 10, Integer.MIN_VALUE, Integer.MAX_VALUE}) {
            Expect.refused("setLeak", ARGUMENT, Scene::twoRooms, x -> x.setLeak(1, leak));
        }
    }

    static void promise6NumbersDevicesFromZero() {
        Orbitdock x = Scene.twoRooms();
        for (int i = 0; i < 8; i++) {
            Expect.same("device", i, x.addDevice("sel".charAt(i % 3), i % 2));
            Expect.same("on at first", false, x.isOn(i));
        }
    }

    static void promise6Refuses() {
        for (char kind : new char[] {'x', 'S', 'r', 'w', (char) 0, (char) 65535}) {
            Expect.refused("addDevice", ARGUMENT, Scene::twoRooms, x -> x.addDevice(kind, 0));
            Expect.refused("addDevice", ARGUMENT, Scene::twoRooms, x -> x.addDevice(kind, 9));
            Expect.refused("addDevice when full", ARGUMENT, Scene::fullStation, x -> x.addDevice(kind, 0));
        }
        for (int no : NO_INDEX) {
            Expect.refused("addDevice", INDEX, Scene::twoRooms, x -> x.addDevice('s', no));
        }
        Expect.refused("addDevice when full", INDEX, Scene::fullStation, x -> x.addDevice('e', 6));
        Expect.refused("addDevice", STATE, Scene::fullStation, x -> x.addDevice('l', 5));
    }

    static void promise7TurnsOnAndOff() {
        Orbitdock x = Scene.twoRooms();
        x.addDevice('s', 0);
        x.addDevice('l', 1);
        Expect.same("was", false, x.setDevice(1, true));
        Expect.same("is", true, x.isOn(1));
        Expect.same("the other one is", false, x.isOn(0));
        Expect.same("was", true, x.setDevice(1, true));
        Expect.same("was", true, x.setDevice(1, false));
        Expect.same("is", false, x.isOn(1));
    }

    static void promise7SafeModeForbidsLampsAlone() {
        Orbitdock x = Scene.safeStation();
        Expect.same("safe", true, x.isSafe());
        Expect.same("a lamp off", false, x.setDevice(0, false));
        Expect.same("a scrubber on", false, x.setDevice(1, true));
        x.endSafe();
        Expect.same("a lamp on behind the safe mode", false, x.setDevice(0, true));
    }

    static void promise7Refuses() {
        for (int no : NO_INDEX) {
            Expect.refused("setDevice", INDEX, Scene::safeStation, x -> x.setDevice(no, true));
            Expect.refused("setDevice", INDEX, Scene::safeStation, x -> x.setDevice(no, false));
        }
        Expect.refused("setDevice", UnsupportedOperationException.class, Scene::safeStation,
                x -> x.setDevice(0, true));
    }

    static void promise8SetsPanels() {
        Orbitdock x = new Orbitdock();
        Expect.same("at first", 10, x.setPanels(40));
        Expect.same("before", 40, x.setPanels(0));
        x.pass(1);
        Expect.same("battery", 100, x.battery());
        Expect.same("before", 0, x.setPanels(7));
        x.pass(1);
        Expect.same("battery", 107, x.battery());
    }

    static void promise8Refuses() {
        for (int units : new int[] {-1, 41, Integer.MIN_VALUE, Integer.MAX_VALUE}) {
            Expect.refused("setPanels", ARGUMENT, Scene::twoRooms, x -> x.setPanels(units));
        }
    }

    static void promises3To8AnEmptyStationHasNothingToSet() {
        Expect.refused("addHatch", INDEX, Orbitdock::new, x -> x.addHatch(0, 0));
        Expect.refused("addHatch", INDEX, Orbitdock::new, x -> x.addHatch(0, 1));
        Expect.refused("setHatch", INDEX, Orbitdock::new, x -> x.setHatch(0, true));
        Expect.refused("setLeak", INDEX, Orbitdock::new, x -> x.setLeak(0, 0));
        Expect.refused("setLeak", INDEX, Orbitdock::new, x -> x.setLeak(0, 10));
        Expect.refused("addDevice", INDEX, Orbitdock::new, x -> x.addDevice('s', 0));
        Expect.refused("addDevice", ARGUMENT, Orbitdock::new, x -> x.addDevice('x', 0));
        Expect.refused("setDevice", INDEX, Orbitdock::new, x -> x.setDevice(0, true));
    }

    static void promise3TheSecondRoomMakesAHatchPossible() {
        Orbitdock x = Scene.oneRoom(60);
        Expect.same("one room", INDEX, Expect.thrownBy(() -> x.addHatch(0, 1)));
        Expect.same("one room with itself", ARGUMENT, Expect.thrownBy(() -> x.addHatch(0, 0)));
        x.addRoom(20);
        Expect.same("two rooms", 0, x.addHatch(0, 1));
        Expect.same("the other way", 1, x.addHatch(1, 0));
    }

    static void promise5TheBoundsOfALeak() {
        Orbitdock x = Scene.oneRoom(60);
        Expect.same("before", 0, x.setLeak(0, 0));
        x.pass(1);
        Expect.same("oxygen with 0", 60, x.oxygen(0));
        Expect.same("before", 0, x.setLeak(0, 9));
        x.pass(1);
        Expect.same("oxygen with 9", 51, x.oxygen(0));
        Expect.same("before", 9, x.setLeak(0, 0));
    }
}
