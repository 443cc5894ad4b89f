/** Promise 15, and what the term "A minute" says of its steps and their order. */
final class MinuteTest {
    private static final Class<IllegalArgumentException> ARGUMENT = IllegalArgumentException.class;
    private static final Class<ArithmeticException> ARITHMETIC = ArithmeticException.class;

    static void promise15ReturnsTheMinute() {
        Orbitdock x = new Orbitdock();
        Expect.same("minute", 1, x.pass(1));
        Expect.same("minute", 91, x.pass(90));
        Expect.same("minute", 93, x.pass(2));
    }

    static void promise15ManyMinutesAreSingleOnes() {
        Orbitdock many = Scene.safeStation();
        Orbitdock single = Scene.safeStation();
        many.pass(37);
        for (int i = 0; i < 37; i++) {
            single.pass(1);
        }
        Expect.same("all", Probe.answers(many), Probe.answers(single));
    }

    static void promise15Refuses() {
        for (int minutes : new int[] {0, 91, -1, Integer.MIN_VALUE, Integer.MAX_VALUE}) {
            Expect.refused("pass", ARGUMENT, Scene::twoRooms, x -> x.pass(minutes));
            Expect.refused("pass at the end", ARGUMENT, Scene::atMinute9990, x -> x.pass(minutes));
        }
        for (int minutes : new int[] {10, 90}) {
            Expect.refused("pass", ARITHMETIC, Scene::atMinute9990, x -> x.pass(minutes));
        }
    }

    static void promise15ReachesMinute9999() {
        Orbitdock x = Scene.atMinute9990();
        Expect.same("minute", 9999, x.pass(9));
        Expect.same("one more", ARITHMETIC, Expect.thrownBy(() -> x.pass(1)));
        Expect.same("no minutes", ARGUMENT, Expect.thrownBy(() -> x.pass(0)));
    }

    static void theStepsOfAMinuteComeInTheirOrder() {
        Orbitdock x = Scene.oneRoom(0);
        x.addRoom(0);
        x.addHatch(0, 1);
        x.setLeak(0, 1);
        Scene.turnOn(x, "e");
        x.board(1);
        x.pass(1);
        // 3 are made, 1 leaks, 1 goes through the hatch, and is breathed.
        Expect.same("oxygen", 1, x.oxygen(0));
        Expect.same("oxygen", 0, x.oxygen(1));
        Expect.same("carbon", 1, x.carbon(1));
    }

    private static Orbitdock atMinute(int minute) {
        Orbitdock x = Scene.safeStation();
        Scene.passTo(x, 1, minute);
        return x;
    }

    static void promise15TheBoundsOfTheMinutes() {
        Orbitdock x = new Orbitdock();
        Expect.same("the least", 1, x.pass(1));
        Expect.same("the most", 91, x.pass(90));
        Expect.same("none", ARGUMENT, Expect.thrownBy(() -> x.pass(0)));
        Expect.same("one too many", ARGUMENT, Expect.thrownBy(() -> x.pass(91)));
        Expect.same("the minute stayed", 92, x.pass(1));
    }

    static void promise15Minute9999IsTheLast() {
        Expect.same("89 from 9910", 9999, atMinute(9910).pass(89));
        Expect.refused("90 from 9910", ARITHMETIC, () -> atMinute(9910), x -> x.pass(90));
        Expect.same("90 from 9909", 9999, atMinute(9909).pass(90));
        Expect.same("1 from 9998", 9999, atMinute(9998).pass(1));
        Expect.refused("2 from 9998", ARITHMETIC, () -> atMinute(9998), x -> x.pass(2));
        Expect.refused("1 from 9999", ARITHMETIC, () -> atMinute(9999), x -> x.pass(1));
        Expect.refused("90 from 9999", ARITHMETIC, () -> atMinute(9999), x -> x.pass(90));
        Expect.refused("0 from 9999", ARGUMENT, () -> atMinute(9999), x -> x.pass(0));
        Expect.refused("91 from 9999", ARGUMENT, () -> atMinute(9999), x -> x.pass(91));
    }

    static void behindTheLastMinuteOtherCallsAreAnswered() {
        Orbitdock x = Scene.atMinute9990();
        x.pass(9);
        Expect.same("room", 2, x.addRoom(0));
        Expect.same("person", 0, x.board(2));
        Expect.same("device", 0, x.addDevice('l', 2));
        Expect.same("waiting", 1, x.send('n', 0, 99, 99));
        Expect.same("ship", 0, x.approach(1, 1));
        Expect.same("was safe", false, x.endSafe());
        Expect.same("left", 3, x.timeLeft());
        Expect.same("worst", 3, x.worst());
        Expect.same("sound", true, x.isSound());
        Expect.same("events", 0, x.events());
    }

    // In the minute 10 a lamp is told to be on, and a ship docks.
    static void commandsComeAheadOfShips() {
        Orbitdock x = Scene.oneRoom(0);
        x.addDevice('l', 0);
        x.approach(11, 0);
        x.burn(0, 1);
        x.send('n', 0, 1, 99);
        x.pass(11);
        Expect.same("events", "cd", Expect.eventsOf(x));
    }

    static void commandsComeAheadOfHatches() {
        Orbitdock x = Scene.twoRooms();
        x.addHatch(0, 1);
        x.setHatch(0, false);
        x.pass(10);
        x.send('o', 0, 1, 0);
        x.pass(1);
        Expect.same("ahead of its minute", 60, x.oxygen(0));
        x.pass(1);
        Expect.same("behind it", 40, x.oxygen(0));
        Orbitdock y = Scene.twoRooms();
        y.addHatch(0, 1);
        y.setHatch(0, false);
        y.pass(10);
        y.send('h', 0, 1, 0);
        y.pass(1);
        y.setHatch(0, true);
        y.pass(1);
        Expect.same("shut in its minute", 60, y.oxygen(0));
    }

    static void shipsComeAheadOfPeople() {
        Orbitdock x = Scene.alone(0);
        x.pass(2);
        x.approach(1, 0);
        x.burn(0, 1);
        x.endSafe();
        x.board(0);
        x.pass(1);
        Expect.same("events", "sdks", Expect.eventsOf(x));
    }

    static void devicesComeAheadOfLeaks() {
        Orbitdock x = Scene.oneRoom(0);
        Scene.turnOn(x, "e");
        x.setLeak(0, 2);
        x.pass(1);
        Expect.same("3 made, 2 lost", 1, x.oxygen(0));
        x.setLeak(0, 9);
        x.pass(1);
        Expect.same("3 made, 4 lost", 0, x.oxygen(0));
        Expect.same("sound", true, x.isSound());
    }

    static void leaksComeAheadOfHatches() {
        Orbitdock x = Scene.oneRoom(9);
        x.addRoom(0);
        x.addHatch(0, 1);
        x.setLeak(0, 9);
        x.pass(1);
        Expect.same("oxygen", 0, x.oxygen(1));
    }

    static void hatchesComeAheadOfPeople() {
        Orbitdock x = Scene.oneRoom(2);
        x.addRoom(0);
        x.addHatch(0, 1);
        x.board(1);
        x.pass(1);
        Expect.same("carbon", 1, x.carbon(1));
        Expect.same("carbon elsewhere", 0, x.carbon(0));
    }

    static void leaksComeAheadOfPeople() {
        Orbitdock x = Scene.alone(9);
        x.setLeak(0, 9);
        x.pass(1);
        Expect.same("carbon", 0, x.carbon(0));
    }

    static void scrubbersComeAheadOfPeople() {
        Orbitdock x = Scene.alone(100);
        Scene.turnOn(x, "s");
        x.pass(1);
        Expect.same("carbon of the minute", 1, x.carbon(0));
        x.pass(1);
        Expect.same("carbon of the minute", 1, x.carbon(0));
    }

    // In the minute 11: a ship, devices, a leak, a hatch and a death are at hand. A command is for the minute behind,
    // as the safe mode drops all that wait until the last breathless minute.
    private static Orbitdock muchIsAtHand() {
        Orbitdock x = Scene.oneRoom(80);
        x.addRoom(0);
        x.addRoom(0);
        x.setHatch(x.addHatch(0, 1), false);
        Scene.turnOn(x, "se");
        x.addDevice('l', 0);
        x.pass(9);
        x.board(2);
        x.approach(1, 40);
        x.pass(2);
        x.burn(0, 1);
        x.setLeak(0, 9);
        x.setHatch(0, true);
        x.endSafe();
        x.send('n', 2, 1, 99);
        return x;
    }

    static void nothingHappensBetweenMinutes() {
        Orbitdock x = muchIsAtHand();
        String before = Probe.answers(x);
        x.setLeak(0, 9);
        x.setHatch(0, true);
        x.setDevice(1, true);
        x.setPanels(10);
        x.setTask(0, 'r');
        x.burn(0, 0);
        x.endSafe();
        Expect.same("move", UnsupportedOperationException.class, Expect.thrownBy(() -> x.move(0, 1)));
        Expect.same("pass", ARGUMENT, Expect.thrownBy(() -> x.pass(0)));
        Expect.same("all", before, Probe.answers(x));
        Expect.same("events", "s", Expect.eventsOf(x));
        Expect.same("somebody lives", 2, x.whereIs(0));
    }

    static void allHappensInOneMinute() {
        Orbitdock x = muchIsAtHand();
        int oxygen = x.oxygen(0);
        int water = x.water();
        int battery = x.battery();
        x.setPanels(0);
        Expect.same("minute", 12, x.pass(1));
        Expect.same("events", "sdk", Expect.eventsOf(x));
        Expect.same("the command waits", false, x.isOn(2));
        Expect.same("water of the ship, less 3", water + 40 - 3, x.water());
        Expect.same("3 and 5 units of power", battery - 8, x.battery());
        int rest = oxygen + 3 - 9;
        Expect.same("half went over", rest - rest / 2, x.oxygen(0));
        Expect.same("to here", rest / 2, x.oxygen(1));
        x.pass(1);
        Expect.same("events", "sdkc", Expect.eventsOf(x));
        Expect.same("the command acted", true, x.isOn(2));
    }

    // Without leaks and scrubbers what breathing and electrolysis change stays aboard.
    static void massIsWholeMinuteByMinute() {
        Orbitdock x = Scene.fullStation();
        for (int i = 0; i < 6; i++) {
            x.board(i);
            x.setTask(i, "rws".charAt(i % 3));
        }
        x.setDevice(1, true);
        x.setDevice(4, true);
        x.approach(40, 30);
        x.burn(0, 1);
        int mass = massOf(x);
        for (int minute = 0; minute < 80; minute++) {
            x.pass(1);
            Expect.same("mass behind minute " + minute, minute < 39 ? mass : mass + 30, massOf(x));
        }
        Expect.same("the ship docked", -1, x.distance(0));
    }

    private static int massOf(Orbitdock x) {
        int mass = x.water();
        for (int room = 0; room < 6; room++) {
            mass += x.oxygen(room) + x.carbon(room);
        }
        return mass;
    }

    static void massGoesByLeaksAndScrubbersAlone() {
        Orbitdock x = Scene.alone(200);
        for (int i = 1; i < 6; i++) {
            x.addRoom(0);
        }
        x.pass(11);
        int mass = massOf(x);
        x.setLeak(0, 7);
        x.pass(3);
        Expect.same("leaked", mass - 21, massOf(x));
        x.setLeak(0, 0);
        Scene.turnOn(x, "s");
        x.pass(2);
        Expect.same("in the store", mass - 21 - 8, massOf(x));
        x.setDevice(0, false);
        x.pass(5);
        Expect.same("nothing more went", mass - 29, massOf(x));
    }
}
