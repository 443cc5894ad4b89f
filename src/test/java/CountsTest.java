import java.util.function.Consumer;
import java.util.function.Supplier;

/** The terms' "at most": the last number that there may be of each kind, and the first one that there is not. */
final class CountsTest {
    private static final Class<IndexOutOfBoundsException> INDEX = IndexOutOfBoundsException.class;
    private static final Class<IllegalStateException> STATE = IllegalStateException.class;

    private static void noSuch(String what, Supplier<Orbitdock> scene, Consumer<Orbitdock> call) {
        Expect.refused(what, INDEX, scene, call);
    }

    // Rooms alone, with hatches from each to the next, and one person in the last one.
    private static Orbitdock sixRooms() {
        Orbitdock x = new Orbitdock();
        for (int i = 0; i < 6; i++) {
            x.addRoom(20 + i);
        }
        for (int i = 0; i < 5; i++) {
            x.addHatch(i, i + 1);
        }
        x.board(5);
        return x;
    }

    static void roomsTheLastIsNumberFive() {
        Orbitdock x = sixRooms();
        Expect.same("oxygen", 25, x.oxygen(5));
        Expect.same("carbon", 0, x.carbon(5));
        Expect.same("leak", 0, x.setLeak(5, 9));
        Expect.same("leak", 9, x.setLeak(5, 0));
        Expect.same("hatch from it", 5, x.addHatch(5, 0));
        Expect.same("hatch to it", 6, x.addHatch(0, 5));
        Expect.same("device", 0, x.addDevice('s', 5));
        Expect.same("person", 1, x.board(5));
        Expect.same("where", 5, x.whereIs(1));
        Expect.same("room before", 5, x.move(1, 4));
        Expect.same("room before", 4, x.move(1, 5));
        Expect.same("where", 5, x.whereIs(1));
    }

    static void roomsThereIsNoNumberSix() {
        Supplier<Orbitdock> scene = CountsTest::sixRooms;
        noSuch("oxygen", scene, x -> x.oxygen(6));
        noSuch("carbon", scene, x -> x.carbon(6));
        noSuch("setLeak", scene, x -> x.setLeak(6, 1));
        noSuch("addHatch from it", scene, x -> x.addHatch(6, 0));
        noSuch("addHatch to it", scene, x -> x.addHatch(0, 6));
        noSuch("addDevice", scene, x -> x.addDevice('s', 6));
        noSuch("board", scene, x -> x.board(6));
        noSuch("move", scene, x -> x.move(0, 6));
    }

    static void roomsTheFirstIsNumberZeroAndNoneIsBelow() {
        Supplier<Orbitdock> scene = CountsTest::sixRooms;
        Expect.same("oxygen", 20, sixRooms().oxygen(0));
        noSuch("oxygen", scene, x -> x.oxygen(-1));
        noSuch("carbon", scene, x -> x.carbon(-1));
        noSuch("setLeak", scene, x -> x.setLeak(-1, 1));
        noSuch("addHatch", scene, x -> x.addHatch(-1, 0));
        noSuch("addHatch", scene, x -> x.addHatch(0, -1));
        noSuch("addDevice", scene, x -> x.addDevice('s', -1));
        noSuch("board", scene, x -> x.board(-1));
        noSuch("move", scene, x -> x.move(0, -1));
    }

    static void roomsTheSixthLeaksAndTheFigureCountsIt() {
        Orbitdock x = new Orbitdock();
        for (int i = 0; i < 6; i++) {
            x.addRoom(i == 5 ? 30 : 0);
        }
        x.setLeak(5, 4);
        x.pass(1);
        Expect.same("oxygen", 26, x.oxygen(5));
        Expect.same("checksum", 26L, x.checksum());
        Expect.same("mean", 26.0 / 6.0, x.meanOxygen());
        Expect.same("sound", true, x.isSound());
    }

    static void roomsASeventhIsRefusedOnce() {
        Orbitdock x = new Orbitdock();
        for (int i = 0; i < 6; i++) {
            Expect.same("room", i, x.addRoom(100));
        }
        Expect.same("a seventh", STATE, Expect.thrownBy(() -> x.addRoom(100)));
        Expect.same("mean", 100.0, x.meanOxygen());
        Expect.same("sound", true, x.isSound());
    }

    static void hatchesTheLastIsNumberSeven() {
        Orbitdock x = Scene.fullOfAll();
        Expect.same("was open", true, x.setHatch(7, false));
        Expect.same("was open", false, x.setHatch(7, true));
        noSuch("setHatch", Scene::fullOfAll, y -> y.setHatch(8, false));
        noSuch("setHatch", Scene::fullOfAll, y -> y.setHatch(-1, false));
    }

    static void hatchesTheEighthLevelsAndLetsThrough() {
        Orbitdock x = new Orbitdock();
        for (int i = 0; i < 6; i++) {
            x.addRoom(i == 5 ? 80 : 40);
        }
        for (int i = 0; i < 8; i++) {
            x.addHatch(i < 7 ? i % 4 : 5, i < 7 ? i % 4 + 1 : 0);
        }
        x.board(5);
        Expect.same("room before", 5, x.move(0, 0));
        x.setHatch(0, false);
        x.setHatch(4, false);
        x.pass(1);
        Expect.same("oxygen", 60, x.oxygen(5));
        Expect.same("oxygen, one breathed", 59, x.oxygen(0));
    }

    static void devicesTheLastIsNumberSeven() {
        Orbitdock x = Scene.fullOfAll();
        Expect.same("was on", false, x.setDevice(7, true));
        Expect.same("on", true, x.isOn(7));
        noSuch("setDevice", Scene::fullOfAll, y -> y.setDevice(8, true));
        noSuch("setDevice", Scene::fullOfAll, y -> y.setDevice(-1, true));
        noSuch("isOn", Scene::fullOfAll, y -> y.isOn(8));
        noSuch("isOn", Scene::fullOfAll, y -> y.isOn(-1));
    }

    static void devicesTheEighthRuns() {
        Orbitdock x = Scene.oneRoom(0);
        x.setPanels(0);
        for (int i = 0; i < 8; i++) {
            x.addDevice(i == 7 ? 'e' : 'l', 0);
        }
        x.setDevice(7, true);
        x.pass(1);
        Expect.same("battery", 95, x.battery());
        Expect.same("water", 47, x.water());
        Expect.same("oxygen", 3, x.oxygen(0));
    }

    static void crewTheLastIsNumberFive() {
        Orbitdock x = Scene.fullOfAll();
        Expect.same("where", 5, x.whereIs(5));
        Expect.same("task", 'r', x.setTask(5, 'w'));
        Expect.same("room before", 5, x.move(5, 4));
        for (int no : new int[] {6, -1}) {
            noSuch("whereIs", Scene::fullOfAll, y -> y.whereIs(no));
            noSuch("setTask", Scene::fullOfAll, y -> y.setTask(no, 'w'));
            noSuch("move", Scene::fullOfAll, y -> y.move(no, 4));
        }
    }

    static void crewTheSixthBreathesAndDies() {
        Orbitdock x = Scene.oneRoom(5);
        for (int i = 0; i < 6; i++) {
            x.board(0);
        }
        x.pass(1);
        Expect.same("the five first ones had a unit each", 5, x.carbon(0));
        x.pass(2);
        Expect.same("the fifth", 0, x.whereIs(4));
        Expect.same("the sixth", -1, x.whereIs(5));
        Expect.same("events", "sk", Expect.eventsOf(x));
        x.pass(1);
        Expect.same("events", "skkkkkk", Expect.eventsOf(x));
        Expect.same("alive", 0.0f, x.aliveShare());
    }

    static void commandsTheTwelfthActs() {
        Orbitdock x = Scene.oneRoom(0);
        x.addDevice('s', 0);
        x.addDevice('s', 0);
        x.pass(10);
        for (int i = 0; i < 12; i++) {
            Expect.same("waiting", i + 1, x.send('n', i == 11 ? 1 : 0, 1, 0));
        }
        Expect.same("a thirteenth", STATE, Expect.thrownBy(() -> x.send('n', 0, 1, 0)));
        x.pass(2);
        Expect.same("told by the twelfth", true, x.isOn(1));
        Expect.same("events", "cccccccccccc", Expect.eventsOf(x));
    }

    static void commandsTheirTargetsEndWithNumberSeven() {
        Orbitdock x = Scene.fullStation();
        Expect.same("device", 1, x.send('n', 7, 1, 99));
        Expect.same("device", 2, x.send('f', 7, 2, 99));
        Expect.same("hatch", 3, x.send('h', 7, 1, 99));
        Expect.same("hatch", 4, x.send('o', 7, 2, 99));
        for (char kind : new char[] {'n', 'f', 'o', 'h'}) {
            noSuch("send " + kind, Scene::fullStation, y -> y.send(kind, 8, 1, 0));
            noSuch("send " + kind, Scene::fullStation, y -> y.send(kind, -1, 1, 0));
        }
    }

    static void commandsTheirLastTargetsAreToldToo() {
        Orbitdock x = Scene.fullStation();
        x.pass(10);
        x.send('n', 7, 1, 0);
        x.send('h', 7, 1, 0);
        x.pass(2);
        Expect.same("device", true, x.isOn(7));
        Expect.same("hatch was open", false, x.setHatch(7, false));
    }

    static void commandsThatActedOrExpiredLeaveTheirPlace() {
        Orbitdock x = Scene.oneRoom(0);
        x.addDevice('l', 0);
        x.pass(10);
        for (int i = 0; i < 12; i++) {
            x.send('n', 0, i == 0 ? 1 : 99, 0);
        }
        x.pass(1);
        Expect.same("ahead of its minute", STATE, Expect.thrownBy(() -> x.send('f', 0, 99, 0)));
        x.pass(1);
        Expect.same("behind it", "c", Expect.eventsOf(x));
        Expect.same("waiting", 12, x.send('f', 0, 38, 0));
        Expect.same("a thirteenth", STATE, Expect.thrownBy(() -> x.send('f', 0, 99, 0)));
        x.pass(39);
        Expect.same("in its last minute", STATE, Expect.thrownBy(() -> x.send('f', 0, 99, 0)));
        x.pass(1);
        Expect.same("expired", "cx", Expect.eventsOf(x));
        Expect.same("waiting", 12, x.send('f', 0, 99, 0));
        Expect.same("a thirteenth", STATE, Expect.thrownBy(() -> x.send('f', 0, 99, 0)));
    }

    static void shipsTheLastIsNumberThree() {
        Orbitdock x = Scene.fullOfAll();
        Expect.same("distance", 103, x.distance(3));
        Expect.same("fuel", 19, x.burn(3, 1));
        for (int no : new int[] {4, -1}) {
            noSuch("distance", Scene::fullOfAll, y -> y.distance(no));
            noSuch("burn", Scene::fullOfAll, y -> y.burn(no, 1));
        }
    }

    static void shipsThatAreGoneCameToo() {
        Orbitdock x = new Orbitdock();
        for (int i = 0; i < 4; i++) {
            Expect.same("ship", i, x.approach(1, 99));
            x.burn(i, 1);
            x.pass(1);
            Expect.same("distance", -1, x.distance(i));
        }
        Expect.same("events", "dddd", Expect.eventsOf(x));
        Expect.same("a fifth", STATE, Expect.thrownBy(() -> x.approach(1, 99)));
        Expect.same("water", 50 + 4 * 99, x.water());
    }
}
