import java.util.List;
import java.util.function.Consumer;
import java.util.function.Supplier;

/** Promises 17 to 28: what is asked, and the time that is left. */
final class AskedTest {
    private static final int[] NO_INDEX = {-1, 2, 6, 8, Integer.MIN_VALUE, Integer.MAX_VALUE};
    private static final Class<IndexOutOfBoundsException> INDEX = IndexOutOfBoundsException.class;

    // Two of all that is asked by its number, and two events.
    private static Orbitdock twoOfAll() {
        Orbitdock x = new Orbitdock();
        x.addRoom(0);
        x.addRoom(190);
        x.board(0);
        x.board(1);
        x.addDevice('s', 0);
        x.addDevice('e', 1);
        x.setDevice(1, true);
        x.approach(40, 1);
        x.approach(50, 1);
        x.pass(3);
        return x;
    }

    static void promise17TellsOxygen() {
        Orbitdock x = twoOfAll();
        Expect.same("oxygen", 0, x.oxygen(0));
        Expect.same("oxygen", 196, x.oxygen(1));
        for (int no : NO_INDEX) {
            Expect.refused("oxygen", INDEX, AskedTest::twoOfAll, y -> y.oxygen(no));
        }
    }

    static void promise18TellsCarbon() {
        Orbitdock x = twoOfAll();
        Expect.same("carbon", 0, x.carbon(0));
        Expect.same("carbon", 3, x.carbon(1));
        for (int no : NO_INDEX) {
            Expect.refused("carbon", INDEX, AskedTest::twoOfAll, y -> y.carbon(no));
        }
    }

    static void promise19TellsWater() {
        Expect.same("water", 50, new Orbitdock().water());
        Expect.same("water", 41, twoOfAll().water());
    }

    static void promise20TellsBattery() {
        Expect.same("battery", 100, new Orbitdock().battery());
        Expect.same("battery", 115, twoOfAll().battery());
    }

    static void promise21TellsWhereSomebodyIs() {
        Orbitdock x = twoOfAll();
        Expect.same("who died", -1, x.whereIs(0));
        Expect.same("who lives", 1, x.whereIs(1));
        for (int no : NO_INDEX) {
            Expect.refused("whereIs", INDEX, AskedTest::twoOfAll, y -> y.whereIs(no));
        }
    }

    static void promise23TellsWhetherADeviceIsOn() {
        Orbitdock x = twoOfAll();
        Expect.same("off", false, x.isOn(0));
        Expect.same("on", true, x.isOn(1));
        for (int no : NO_INDEX) {
            Expect.refused("isOn", INDEX, AskedTest::twoOfAll, y -> y.isOn(no));
        }
    }

    static void promise24TellsTheSafeMode() {
        Expect.same("at first", false, new Orbitdock().isSafe());
        Expect.same("begun", true, twoOfAll().isSafe());
    }

    static void promise25CountsEvents() {
        Expect.same("at first", 0, new Orbitdock().events());
        Expect.same("two", 2, twoOfAll().events());
    }

    static void promise26TellsEvents() {
        Orbitdock x = twoOfAll();
        Expect.same("first", 's', x.eventAt(0));
        Expect.same("second", 'k', x.eventAt(1));
        for (int no : NO_INDEX) {
            Expect.refused("eventAt", INDEX, AskedTest::twoOfAll, y -> y.eventAt(no));
        }
        Expect.refused("eventAt", INDEX, Orbitdock::new, y -> y.eventAt(0));
    }

    static void promise25KeepsAllEvents() {
        Orbitdock x = Scene.alone(9);
        x.addRoom(200);
        x.addRoom(200);
        x.addHatch(1, 2);
        x.setLeak(0, 9);
        x.setTask(0, 's');
        for (int i = 1; i <= 250; i++) {
            x.pass(1);
            Expect.same("was", true, x.endSafe());
        }
        Expect.same("events", 250, x.events());
        Expect.same("the last one", 's', x.eventAt(249));
    }

    // What calls behind the 512th answer is free, but that they don't break is not.
    static void manyMoreEventsThanPromisedBreakNothing() {
        Orbitdock x = Scene.alone(9);
        x.setTask(0, 's');
        for (int i = 0; i < 3000; i++) {
            x.pass(1);
            x.endSafe();
        }
        Expect.same("the last one kept", 's', x.eventAt(x.events() - 1));
        Expect.same("behind it", INDEX, Expect.thrownBy(() -> x.eventAt(x.events())));
    }

    static void promise27CountsTheMinuteOfDeath() {
        Expect.same("without air", 3, Scene.alone(0).timeLeft());
        Expect.same("with 10 units", 13, Scene.alone(10).timeLeft());
        Orbitdock x = Scene.alone(0);
        x.pass(2);
        Expect.same("in the last minute", 1, x.timeLeft());
        x.pass(1);
        Expect.same("nobody alive", 300, x.timeLeft());
    }

    static void promise27NobodyMeans300() {
        Expect.same("empty station", 300, new Orbitdock().timeLeft());
        Expect.same("empty rooms", 300, Scene.fullStation().timeLeft());
    }

    static void promise27IsWhatReallyComes() {
        int[] deaths = new int[400];
        for (int oxygen = 85; oxygen <= 105; oxygen++) {
            int more = oxygen;
            Supplier<Orbitdock> scene = () -> {
                Orbitdock x = Scene.alone(200);
                x.addRoom(more);
                x.addHatch(0, 1);
                return x;
            };
            int death = minuteOfDeath(scene.get());
            deaths[death]++;
            Expect.same("timeLeft with " + oxygen, Math.min(death, 300), scene.get().timeLeft());
        }
        for (int death = 298; death <= 302; death++) {
            Expect.same("scenes with a death in minute " + death, 1, deaths[death]);
        }
    }

    private static int minuteOfDeath(Orbitdock x) {
        Scene.passTo(x, 0, 270);
        Expect.same("lives so far", 0, x.whereIs(0));
        int minute = 270;
        while (x.whereIs(0) >= 0 && minute < 350) {
            minute = x.pass(1);
        }
        return minute;
    }

    static void promise27IsOfTheFirstWhoDies() {
        Orbitdock x = Scene.alone(100);
        x.addRoom(20);
        x.board(1);
        Expect.same("the second one's", 23, x.timeLeft());
        x.addRoom(5);
        x.board(2);
        Expect.same("the third one's", 8, x.timeLeft());
        x.pass(8);
        Expect.same("the second one's again", 15, x.timeLeft());
    }

    static void promise27ReckonsWithCommandsShipsAndTheSafeMode() {
        Orbitdock x = Scene.alone(30);
        x.addDevice('e', 0);
        Expect.same("off", 33, x.timeLeft());
        x.send('n', 0, 20, 0);
        Expect.same("commanded on", 83, x.timeLeft());
        x.approach(60, 40);
        Expect.same("a ship at rest", 83, x.timeLeft());
        x.burn(0, 1);
        Expect.same("a ship on its way", 123, x.timeLeft());
        Orbitdock worker = Scene.alone(30);
        worker.setTask(0, 'w');
        // 11 minutes of work leave 8 units, which last for 8 minutes of rest.
        Expect.same("a worker", 22, worker.timeLeft());
    }

    static void promise27ReckonsWithLifeAndTargetOfCommands() {
        Orbitdock x = Scene.alone(30);
        x.addDevice('l', 0);
        x.addDevice('e', 0);
        x.send('n', 1, 2, 7);
        Expect.same("expired ahead of contact", 33, x.timeLeft());
        x.send('n', 1, 2, 8);
        Expect.same("in its last minute", 83, x.timeLeft());
    }

    static void promise27ReckonsWithPower() {
        Orbitdock x = Scene.alone(30);
        x.setDevice(x.addDevice('e', 0), true);
        Expect.same("with all water", 83, x.timeLeft());
        x.setPanels(0);
        Expect.same("with all water by the battery", 83, x.timeLeft());
        x.addDevice('e', 0);
        x.addDevice('s', 0);
        x.setDevice(2, true);
        // 12 times 8 of the 100, then the scrubber alone.
        Expect.same("with the water for 12 minutes", 69, x.timeLeft());
        x.pass(1);
        Expect.same("a minute later", 68, x.timeLeft());
    }

    static void promise27ReckonsWithLeaksHatchesAndWhereDevicesAre() {
        Orbitdock x = new Orbitdock();
        x.addRoom(0);
        x.addRoom(30);
        x.addRoom(31);
        x.board(1);
        x.addDevice('e', 2);
        x.setDevice(0, true);
        x.setPanels(40);
        Expect.same("behind walls", 33, x.timeLeft());
        x.setLeak(1, 9);
        Expect.same("with a leak", 6, x.timeLeft());
        x.setLeak(1, 0);
        x.setDevice(0, false);
        x.addHatch(1, 2);
        int both = x.timeLeft();
        Expect.same("with a hatch to the third room", true, both >= 61 && both <= 64);
        x.setHatch(0, false);
        x.addHatch(0, 2);
        Expect.same("with a hatch elsewhere", 33, x.timeLeft());
        x.setHatch(0, true);
        x.setHatch(1, false);
        x.setDevice(0, true);
        Expect.same("with the device there", both + 50, x.timeLeft());
    }

    static void promise27And28ChangeNothing() {
        for (int minutes : new int[] {0, 3, 45}) {
            Supplier<Orbitdock> scene = () -> busyStation(minutes);
            Orbitdock asked = scene.get();
            asked.timeLeft();
            asked.worst();
            asked.isSound();
            Orbitdock other = scene.get();
            Expect.same("pass", other.pass(1), asked.pass(1));
            Expect.same("all", Probe.everything(other), Probe.everything(asked));
        }
    }

    private static Orbitdock busyStation(int minutes) {
        Orbitdock x = Scene.fullStation();
        x.board(1);
        x.board(4);
        x.setTask(1, 'w');
        x.setDevice(1, true);
        x.setLeak(2, 3);
        x.approach(30, 9);
        x.burn(0, 2);
        x.send('n', 0, 15, 5);
        x.send('h', 0, 16, 5);
        x.send('n', 3, 40, 45);
        for (int i = 0; i < minutes; i++) {
            x.pass(1);
        }
        return x;
    }

    static void promise27And28AnswerForAFullStation() {
        Orbitdock x = Scene.fullStation();
        for (int i = 0; i < 6; i++) {
            x.board(i);
        }
        for (int i = 0; i < 4; i++) {
            x.approach(100 + i, i);
        }
        for (int i = 0; i < 12; i++) {
            x.send("nfoh".charAt(i % 4), i % 8, 1 + i, 99);
        }
        int left = x.timeLeft();
        Expect.same("worst", true, x.worst() <= left && x.worst() > 0);
        Expect.same("sound", true, x.isSound());
        x.pass(90);
        Expect.same("somebody died", left <= 90, Expect.eventsOf(x).indexOf('k') >= 0);
    }

    static void promise28WithoutDevicesIsTimeLeft() {
        Expect.same("worst", 33, Scene.alone(30).worst());
        Expect.same("worst of nobody", 300, Scene.fullStation().worst());
        Expect.same("worst of nothing", 300, new Orbitdock().worst());
    }

    static void promise28TakesEachDeviceAsOff() {
        Orbitdock x = Scene.alone(30);
        x.setDevice(x.addDevice('e', 0), true);
        Expect.same("as it is", 83, x.timeLeft());
        Expect.same("without the electrolyser", 33, x.worst());
        x.setDevice(x.addDevice('e', 0), true);
        Expect.same("as it is", 83, x.timeLeft());
        Expect.same("without one of two", 83, x.worst());
        Expect.same("still on", true, x.isOn(0) && x.isOn(1));
    }

    static void promise28FindsTheLastDeviceToo() {
        Orbitdock x = Scene.alone(30);
        x.addDevice('l', 0);
        x.addDevice('l', 0);
        x.setDevice(x.addDevice('e', 0), true);
        Expect.same("as it is", 83, x.timeLeft());
        Expect.same("without the third device", 33, x.worst());
    }

    static void promise28IsOffWhateverIsCommanded() {
        Orbitdock x = Scene.alone(30);
        x.addDevice('e', 0);
        x.send('n', 0, 10, 0);
        Expect.same("as it is", 83, x.timeLeft());
        Expect.same("without what is commanded on", 33, x.worst());
        x.pass(11);
        Expect.same("on", true, x.isOn(0));
    }

    // Without the scrubber the safe mode comes earlier, and then rest: as it is, it is worst.
    static void promise28CountsAsItIsToo() {
        Orbitdock x = Scene.alone(200);
        x.setTask(0, 'w');
        x.setDevice(x.addDevice('s', 0), true);
        Expect.same("as it is", 107, x.timeLeft());
        Expect.same("worst", 107, x.worst());
        x.setDevice(0, false);
        Expect.same("without the scrubber", 182, x.timeLeft());
        Expect.same("worst", 182, x.worst());
    }

    static void promise28IsTheLeastOverSeveral() {
        Orbitdock x = Scene.alone(200);
        x.setTask(0, 'w');
        x.addDevice('s', 0);
        x.addDevice('e', 0);
        x.addDevice('e', 0);
        x.setDevice(0, true);
        x.setDevice(1, true);
        int least = x.timeLeft();
        for (int device = 0; device < 2; device++) {
            x.setDevice(device, false);
            least = Math.min(least, x.timeLeft());
            x.setDevice(device, true);
        }
        Expect.same("without the electrolyser", 107, least);
        Expect.same("worst", 107, x.worst());
    }

    static void promises17To26AnEmptyStationHasNoneOfThese() {
        Expect.refused("oxygen", INDEX, Orbitdock::new, x -> x.oxygen(0));
        Expect.refused("carbon", INDEX, Orbitdock::new, x -> x.carbon(0));
        Expect.refused("whereIs", INDEX, Orbitdock::new, x -> x.whereIs(0));
        Expect.refused("isOn", INDEX, Orbitdock::new, x -> x.isOn(0));
        Expect.refused("eventAt", INDEX, Orbitdock::new, x -> x.eventAt(0));
        Expect.refused("eventAt", INDEX, Orbitdock::new, x -> x.eventAt(-1));
    }

    static void eventsOfAllSixKinds() {
        Orbitdock x = Scene.oneRoom(0);
        x.addDevice('s', 0);
        x.pass(9);
        x.send('n', 0, 1, 0);
        x.pass(2);
        Expect.same("a command acted", "c", Expect.eventsOf(x));
        x.pass(39);
        x.send('n', 0, 1, 0);
        x.pass(3);
        Expect.same("one expired", "cx", Expect.eventsOf(x));
        x.approach(2, 0);
        x.approach(3, 0);
        x.burn(0, 2);
        x.pass(1);
        Expect.same("a ship docked", "cxd", Expect.eventsOf(x));
        x.burn(1, 3);
        x.pass(1);
        Expect.same("one turned away", "cxdt", Expect.eventsOf(x));
        x.board(0);
        x.pass(1);
        Expect.same("the safe mode began", "cxdts", Expect.eventsOf(x));
        x.pass(2);
        Expect.same("somebody died", "cxdtsk", Expect.eventsOf(x));
        Expect.same("events", 6, x.events());
        Expect.same("the last one", 'k', x.eventAt(5));
        Expect.same("behind it", INDEX, Expect.thrownBy(() -> x.eventAt(6)));
    }

    // Twelve commands a round act in an orbit of their own: about as many events as 512 calls can bring.
    static void aRowOfEventsOfFiveHundredAndTwelveCalls() {
        Orbitdock x = Scene.oneRoom(0);
        x.addDevice('s', 0);
        int calls = 2;
        int acted = 0;
        while (calls + 13 <= 505) {
            for (int i = 0; i < 12; i++) {
                x.send("nf".charAt(i % 2), 0, 1 + i, 99);
            }
            x.pass(90);
            calls += 13;
            acted += 12;
        }
        Expect.same("events", 456, acted);
        Expect.same("events", acted, x.events());
        Expect.same("the first one", 'c', x.eventAt(0));
        Expect.same("the last one", 'c', x.eventAt(acted - 1));
        int behind = acted;
        Expect.same("behind it", INDEX, Expect.thrownBy(() -> x.eventAt(behind)));
        Expect.same("off by the last command", false, x.isOn(0));
        x.addRoom(7);
        for (calls += 7; calls < 511; calls++) {
            x.water();
        }
        Expect.same("the call with the number 512", 7L, x.checksum());
    }

    static void promise27CountsFromOne() {
        for (int units = 0; units <= 200; units += 40) {
            Expect.same("left with " + units, units + 3, Scene.alone(units).timeLeft());
        }
        Orbitdock x = Scene.alone(0);
        Expect.same("three short minutes", 3, x.timeLeft());
        x.pass(1);
        Expect.same("two", 2, x.timeLeft());
        x.pass(1);
        Expect.same("one", 1, x.timeLeft());
        x.pass(1);
        Expect.same("nobody alive", 300, x.timeLeft());
        Expect.same("nobody alive", 300, x.worst());
    }

    // 200 units in the room, the 50 of the tank and a ship's: each lasts for a minute, and the third behind is the last.
    private static Orbitdock diesIn(int minute) {
        Orbitdock x = Scene.alone(200);
        Scene.turnOn(x, "e");
        x.approach(1, minute - 253);
        x.burn(0, 1);
        return x;
    }

    static void promise27KnowsMinute299And300And301() {
        int[] deaths = {298, 299, 300, 301, 302};
        int[] left = {298, 299, 300, 300, 300};
        for (int i = 0; i < deaths.length; i++) {
            Orbitdock x = diesIn(deaths[i]);
            Expect.same("left", left[i], x.timeLeft());
            Scene.passTo(x, 0, deaths[i] - 1);
            Expect.same("lives in " + deaths[i], 0, x.whereIs(0));
            Expect.same("left", 1, x.timeLeft());
            x.pass(1);
            Expect.same("died in " + deaths[i], -1, x.whereIs(0));
        }
    }

    static void promise28KnowsMinute299And300And301() {
        int[] deaths = {298, 299, 300, 301, 302};
        int[] left = {298, 299, 300, 300, 300};
        for (int i = 0; i < deaths.length; i++) {
            Orbitdock x = diesIn(deaths[i]);
            Expect.same("worst, without the electrolyser", 203, x.worst());
            // A second electrolyser does what the first one, failing, leaves.
            x.setDevice(x.addDevice('e', 0), true);
            Expect.same("worst of " + deaths[i], left[i], x.worst());
            Expect.same("left of " + deaths[i], left[i], x.timeLeft());
        }
    }

    static void promise28FindsTheEighthDevice() {
        Orbitdock x = Scene.alone(30);
        for (int i = 0; i < 7; i++) {
            x.addDevice('l', 0);
        }
        x.setDevice(x.addDevice('e', 0), true);
        Expect.same("as it is", 83, x.timeLeft());
        Expect.same("without the eighth", 33, x.worst());
    }

    static void promise28FindsTheFirstDevice() {
        Orbitdock x = Scene.alone(30);
        x.setDevice(x.addDevice('e', 0), true);
        for (int i = 0; i < 7; i++) {
            x.addDevice('l', 0);
        }
        Expect.same("as it is", 83, x.timeLeft());
        Expect.same("without the first", 33, x.worst());
    }

    static void promise28ADeviceThatIsOffMakesNoDifference() {
        Orbitdock x = Scene.alone(30);
        x.addDevice('e', 0);
        Expect.same("as it is", 33, x.timeLeft());
        Expect.same("worst", 33, x.worst());
    }

    // Each device is off by itself: with one of two the other one still makes all the oxygen.
    static void promise28TakesOneDeviceAtATime() {
        Orbitdock x = Scene.alone(0);
        Scene.turnOn(x, "ee");
        Expect.same("as it is", 53, x.timeLeft());
        Expect.same("without either", 53, x.worst());
        x.setDevice(1, false);
        Expect.same("without the one that is on", 3, x.worst());
    }

    static void promises27And28LookBeyondMinute9999() {
        Orbitdock x = Scene.alone(30);
        x.addDevice('e', 0);
        Scene.passTo(x, 0, 9999);
        Expect.same("died long ago", 300, x.timeLeft());
        x.endSafe();
        x.addRoom(30);
        x.board(1);
        x.addDevice('e', 1);
        Expect.same("left", 33, x.timeLeft());
        x.setDevice(1, true);
        Expect.same("with the electrolyser", 83, x.timeLeft());
        Expect.same("without it", 33, x.worst());
        x.setDevice(1, false);
        // The minute 10000 is one with contact.
        x.send('n', 1, 1, 0);
        Expect.same("commanded on", 83, x.timeLeft());
        Expect.same("whatever is commanded", 33, x.worst());
        Expect.same("the minute is still the last", ArithmeticException.class, Expect.thrownBy(() -> x.pass(1)));
    }

    static void promise27ReckonsWithEvenMinutes() {
        Orbitdock x = Scene.alone(0);
        x.setTask(0, 's');
        Expect.same("asleep from an even minute on", 300, x.timeLeft());
        x.pass(1);
        Expect.same("asleep from an odd minute on", 300, x.timeLeft());
        x.setTask(0, 'r');
        Expect.same("at rest, one minute short", 2, x.timeLeft());
    }

    // In minute 60, without charge: what the panels give from minute 90 on may come just in time.
    private static Orbitdock inTheShade(int oxygen) {
        Orbitdock x = Scene.oneRoom(0);
        x.setPanels(0);
        Scene.turnOn(x, "eeee");
        x.pass(60);
        x.setPanels(5);
        x.approach(1, 3);
        x.burn(0, 1);
        x.addRoom(oxygen);
        x.board(1);
        x.setDevice(0, false);
        x.setDevice(1, false);
        x.setDevice(2, false);
        x.setDevice(3, false);
        x.setDevice(x.addDevice('e', 1), true);
        return x;
    }

    static void promise27ReckonsWithTheSunOfTheNextOrbit() {
        Expect.same("short in 87, 88 and 89", 30, inTheShade(27).timeLeft());
        Expect.same("short in 88 and 89", 36, inTheShade(28).timeLeft());
        Expect.same("short in 89", 36, inTheShade(29).timeLeft());
        Expect.same("not short ahead of 93", 36, inTheShade(30).timeLeft());
        Expect.same("without the electrolyser", 33, inTheShade(30).worst());
    }

    // With 30 units the safe mode begins in minute 20, behind the commands of that minute.
    static void promise27ReckonsWithTheSafeModeThatDropsCommands() {
        int[] arrivals = {20, 21};
        int[] left = {83, 33};
        for (int i = 0; i < arrivals.length; i++) {
            Orbitdock x = Scene.alone(30);
            x.addDevice('e', 0);
            x.send('n', 0, arrivals[i], 99);
            Expect.same("arrival in " + arrivals[i], left[i], x.timeLeft());
            Expect.same("worst", 33, x.worst());
            x.pass(32);
            Expect.same("what came of it", i == 0, x.isOn(0));
            Expect.same("left", left[i] - 32, x.timeLeft());
        }
    }

    // Each question by itself, some times, and what shows behind it.
    static void promises17To32AskingChangesNothing() {
        List<Consumer<Orbitdock>> questions = List.of(x -> x.oxygen(1), x -> x.carbon(1), Orbitdock::water,
                Orbitdock::battery, x -> x.whereIs(1), x -> x.distance(0), x -> x.isOn(1), Orbitdock::isSafe,
                Orbitdock::events, x -> x.eventAt(0), Orbitdock::timeLeft, Orbitdock::worst, Orbitdock::checksum,
                Orbitdock::aliveShare, Orbitdock::meanOxygen, Orbitdock::isSound);
        String due = Probe.everything(twoOfAll());
        for (int i = 0; i < questions.size(); i++) {
            Orbitdock asked = twoOfAll();
            for (int times = 0; times < 3; times++) {
                questions.get(i).accept(asked);
            }
            Expect.same("all behind question " + i, due, Probe.everything(asked));
        }
    }
}
