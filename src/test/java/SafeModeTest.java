import java.util.function.Supplier;

/** Promise 16, and what the term "Safe mode" says. */
final class SafeModeTest {
    static void promise16ReturnsWhetherItWas() {
        Orbitdock x = Scene.safeStation();
        Expect.same("was", true, x.endSafe());
        Expect.same("is", false, x.isSafe());
        Expect.same("was", false, x.endSafe());
        x.pass(1);
        Expect.same("begins anew", true, x.isSafe());
        Expect.same("events", "ss", Expect.eventsOf(x));
    }

    static void safeModeBeginsBelowTenOxygen() {
        Orbitdock x = Scene.oneRoom(12);
        x.board(0);
        x.pass(2);
        Expect.same("at 10", false, x.isSafe());
        x.pass(1);
        Expect.same("at 9", true, x.isSafe());
        Expect.same("events", "s", Expect.eventsOf(x));
        x.pass(1);
        Expect.same("goes on without an event", "s", Expect.eventsOf(x));
    }

    static void safeModeBeginsAboveFortyCarbon() {
        Orbitdock x = Scene.oneRoom(200);
        x.board(0);
        x.pass(40);
        Expect.same("carbon", 40, x.carbon(0));
        Expect.same("at 40", false, x.isSafe());
        x.pass(1);
        Expect.same("at 41", true, x.isSafe());
    }

    static void safeModeNeedsSomebodyAliveThere() {
        Orbitdock x = Scene.oneRoom(0);
        x.addRoom(200);
        x.board(1);
        x.pass(5);
        Expect.same("nobody there", false, x.isSafe());
        x.board(0);
        x.pass(3);
        Expect.same("events", "sk", Expect.eventsOf(x));
        x.endSafe();
        x.pass(5);
        Expect.same("a dead one there", false, x.isSafe());
    }

    static void safeModeWaitsForAMinute() {
        Orbitdock x = Scene.oneRoom(0);
        x.board(0);
        Expect.same("ahead of it", false, x.isSafe());
        x.pass(1);
        Expect.same("behind it", true, x.isSafe());
    }

    static void safeModeTurnsLampsOffAndWorkToRest() {
        Orbitdock x = Scene.oneRoom(60);
        x.addRoom(200);
        Scene.turnOn(x, "lsel");
        x.board(0);
        x.board(1);
        x.board(1);
        x.board(1);
        x.setTask(0, 's');
        x.setTask(1, 'w');
        x.setTask(3, 'w');
        x.setLeak(0, 9);
        x.pass(20);
        Expect.same("safe", true, x.isSafe());
        Expect.same("lamps", false, x.isOn(0) || x.isOn(3));
        Expect.same("others", true, x.isOn(1) && x.isOn(2));
        Expect.same("asleep", 's', x.setTask(0, 's'));
        Expect.same("who worked", 'r', x.setTask(1, 'r'));
        Expect.same("who rested", 'r', x.setTask(2, 'r'));
        Expect.same("who worked", 'r', x.setTask(3, 'r'));
    }

    static void safeModeComesBehindThePeopleOfItsMinute() {
        Orbitdock x = Scene.oneRoom(11);
        x.board(0);
        x.setTask(0, 'w');
        x.pass(1);
        Expect.same("oxygen", 9, x.oxygen(0));
        Expect.same("safe", true, x.isSafe());
        x.pass(1);
        Expect.same("oxygen behind a minute of rest", 8, x.oxygen(0));
    }

    // Oxygen and carbon of somebody's room at rest, by the minutes that passed.
    private static Orbitdock behind(int oxygen, int minutes) {
        Orbitdock x = Scene.alone(oxygen);
        x.pass(minutes);
        return x;
    }

    static void tenUnitsOfOxygenAndFortyOfCarbonAreGoodEnough() {
        Orbitdock x = behind(50, 40);
        Expect.same("oxygen", 10, x.oxygen(0));
        Expect.same("carbon", 40, x.carbon(0));
        Expect.same("safe mode", false, x.isSafe());
        Expect.same("events", 0, x.events());
        x.pass(1);
        Expect.same("safe mode", true, x.isSafe());
        Expect.same("one event", "s", Expect.eventsOf(x));
    }

    static void nineUnitsOfOxygenAreTooFew() {
        Expect.same("at 10", false, behind(11, 1).isSafe());
        Expect.same("at 9", true, behind(10, 1).isSafe());
        Expect.same("at 0", true, behind(0, 1).isSafe());
    }

    static void fortyOneUnitsOfCarbonAreTooMany() {
        Expect.same("at 40", false, behind(200, 40).isSafe());
        Expect.same("at 41", true, behind(200, 41).isSafe());
    }

    static void theLastPersonBeginsItToo() {
        Orbitdock x = Scene.oneRoom(200);
        x.addRoom(9);
        for (int i = 0; i < 5; i++) {
            x.board(0);
        }
        x.pass(1);
        Expect.same("nobody in the bad room", false, x.isSafe());
        x.board(1);
        x.pass(1);
        Expect.same("the sixth there", true, x.isSafe());
    }

    static void whoDiesInAMinuteDoesNotBeginItThen() {
        Orbitdock x = Scene.alone(0);
        x.pass(2);
        x.endSafe();
        x.pass(1);
        Expect.same("safe mode", false, x.isSafe());
        Expect.same("events", "sk", Expect.eventsOf(x));
    }

    static void itGoesOnInGoodAirUntilItIsEnded() {
        Orbitdock x = Scene.safeStation();
        x.setHatch(0, true);
        x.pass(30);
        Expect.same("goes on", true, x.isSafe());
        Expect.same("events", "s", Expect.eventsOf(x));
        Expect.same("was", true, x.endSafe());
        Expect.same("is", false, x.isSafe());
    }

    static void whenItEndsInGoodAirItStaysEnded() {
        Orbitdock x = Scene.safeStation();
        x.setHatch(0, true);
        x.pass(1);
        x.endSafe();
        x.pass(1);
        Expect.same("safe mode", false, x.isSafe());
        Expect.same("events", "s", Expect.eventsOf(x));
    }

    static void whatItForbadeIsAllowedAtOnceBehindIt() {
        Orbitdock x = Scene.safeStation();
        x.endSafe();
        Expect.same("a lamp", false, x.setDevice(0, true));
        Expect.same("work", 'r', x.setTask(1, 'w'));
        Expect.same("a command", 1, x.send('f', 0, 1, 0));
    }

    static void itForbidsNothingElse() {
        Orbitdock x = Scene.safeStation();
        Expect.same("room", 2, x.addRoom(200));
        Expect.same("hatch", 1, x.addHatch(1, 2));
        Expect.same("was open", false, x.setHatch(0, true));
        Expect.same("leak", 0, x.setLeak(2, 1));
        Expect.same("a new lamp", 2, x.addDevice('l', 2));
        Expect.same("a lamp off", false, x.setDevice(2, false));
        Expect.same("a scrubber on", false, x.setDevice(1, true));
        Expect.same("a scrubber off", true, x.setDevice(1, false));
        Expect.same("panels", 10, x.setPanels(11));
        Expect.same("person", 2, x.board(2));
        Expect.same("move", 1, x.move(1, 2));
        Expect.same("sleep", 'r', x.setTask(1, 's'));
        Expect.same("rest", 's', x.setTask(1, 'r'));
        Expect.same("ship", 0, x.approach(9, 9));
        Expect.same("fuel", 19, x.burn(0, 1));
        Expect.same("minute", 2, x.pass(1));
        Expect.same("safe mode", true, x.isSafe());
    }

    static void itForbidsLampsOnWorkAndCommands() {
        Class<UnsupportedOperationException> unsupported = UnsupportedOperationException.class;
        Expect.refused("a lamp", unsupported, Scene::safeStation, x -> x.setDevice(0, true));
        Expect.refused("work", unsupported, Scene::safeStation, x -> x.setTask(0, 'w'));
        Expect.refused("work", unsupported, Scene::safeStation, x -> x.setTask(1, 'w'));
        Expect.refused("a command", unsupported, Scene::safeStation, x -> x.send('f', 0, 1, 0));
        Supplier<Orbitdock> withNewLamp = () -> {
            Orbitdock x = Scene.safeStation();
            x.addDevice('l', 1);
            return x;
        };
        Expect.refused("a new lamp", unsupported, withNewLamp, x -> x.setDevice(2, true));
    }

    static void promise16EndsNothingWhereThereIsNone() {
        Orbitdock asked = Scene.fullOfAll();
        Expect.same("was", false, asked.endSafe());
        Expect.same("all", Probe.everything(Scene.fullOfAll()), Probe.everything(asked));
        Expect.same("a new object", false, new Orbitdock().endSafe());
    }

    static void allCommandsThatWaitAreGone() {
        Orbitdock x = Scene.oneRoom(10);
        x.addDevice('s', 0);
        for (int i = 0; i < 12; i++) {
            x.send('n', 0, 10 + i, 99);
        }
        x.board(0);
        x.pass(1);
        Expect.same("safe mode", true, x.isSafe());
        x.endSafe();
        for (int i = 1; i <= 12; i++) {
            Expect.same("waiting", i, x.send('f', 0, 99, 99));
        }
        x.pass(60);
        Expect.same("off", false, x.isOn(0));
    }

    static void shipsAndDevicesGoOnInIt() {
        Orbitdock x = Scene.safeStation();
        x.approach(1, 20);
        x.approach(3, 20);
        x.burn(0, 1);
        x.burn(1, 3);
        x.setDevice(1, true);
        x.setPanels(0);
        int battery = x.battery();
        x.pass(1);
        Expect.same("safe mode", true, x.isSafe());
        Expect.same("events", "sdt", Expect.eventsOf(x));
        Expect.same("water", 70, x.water());
        Expect.same("battery", battery - 3, x.battery());
        Expect.same("carbon, scrubbed and breathed", 1, x.carbon(0));
    }
}
