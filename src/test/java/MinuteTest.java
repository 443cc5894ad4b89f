/** Promise 15, and what the term "A minute" says of its steps and their order. */
final class MinuteTest {
    private static final Class<IllegalArgumentException> ARGUMENT = IllegalArgumentException.class;
    private static final Class<ArithmeticException> ARITHMETIC = ArithmeticException.class;

    static void promise15ReturnsTheMinute() {
        Orbitdock x = new Orbitdock();
        Expect.same("minute", 1, x.pass(1));
        Expect.same("minute", 91, x.pass(90));
        Expect.same("minute", 93, x.pass(2));
    }

    static void promise15ManyMinutesAreSingleOnes() {
        Orbitdock many = Scene.safeStation();
        Orbitdock single = Scene.safeStation();
        many.pass(37);
        for (int i = 0; i < 37; i++) {
            single.pass(1);
        }
        Expect.same("all", Probe.answers(many), Probe.answers(single));
    }

    static void promise15Refuses() {
        for (int minutes : new int[] {0, 91, -1, Integer.MIN_VALUE, Integer.MAX_VALUE}) {
            Expect.refused("pass", ARGUMENT, Scene::twoRooms, x -> x.pass(minutes));
            Expect.refused("pass at the end", ARGUMENT, Scene::atMinute9990, x -> x.pass(minutes));
        }
        for (int minutes : new int[] {10, 90}) {
            Expect.refused("pass", ARITHMETIC, Scene::atMinute9990, x -> x.pass(minutes));
        }
    }

    static void promise15ReachesMinute9999() {
        Orbitdock x = Scene.atMinute9990();
        Expect.same("minute", 9999, x.pass(9));
        Expect.same("one more", ARITHMETIC, Expect.thrownBy(() -> x.pass(1)));
        Expect.same("no minutes", ARGUMENT, Expect.thrownBy(() -> x.pass(0)));
    }

    static void theStepsOfAMinuteComeInTheirOrder() {
        Orbitdock x = Scene.oneRoom(0);
        x.addRoom(0);
        x.addHatch(0, 1);
        x.setLeak(0, 1);
        Scene.turnOn(x, "e");
        x.board(1);
        x.pass(1);
        // 3 are made, 1 leaks, 1 goes through the hatch, and is breathed.
        Expect.same("oxygen", 1, x.oxygen(0));
        Expect.same("oxygen", 0, x.oxygen(1));
        Expect.same("carbon", 1, x.carbon(1));
    }

    private static Orbitdock atMinute(int minute) {
        Orbitdock x = Scene.safeStation();
        Scene.passTo(x, 1, minute);
        return x;
    }

    static void promise15TheBoundsOfTheMinutes() {
        Orbitdock x = new Orbitdock();
        Expect.same("the least", 1, x.pass(1));
        Expect.same("the most", 91, x.pass(90));
        Expect.same("none", ARGUMENT, Expect.thrownBy(() -> x.pass(0)));
        Expect.same("one too many", ARGUMENT, Expect.thrownBy(() -> x.pass(91)));
        Expect.same("the minute stayed", 92, x.pass(1));
    }

    static void promise15Minute9999IsTheLast() {
        Expect.same("89 from 9910", 9999, atMinute(9910).pass(89));
        Expect.refused("90 from 9910", ARITHMETIC, () -> atMinute(9910), x -> x.pass(90));
        Expect.same("90 from 9909", 9999, atMinute(9909).pass(90));
        Expect.same("1 from 9998", 9999, atMinute(9998).pass(1));
        Expect.refused("2 from 9998", ARITHMETIC, () -> atMinute(9998), x -> x.pass(2));
        Expect.refused("1 from 9999", ARITHMETIC, () -> atMinute(9999), x -> x.pass(1));
        Expect.refused("90 from 9999", ARITHMETIC, () -> atMinute(9999), x -> x.pass(90));
        Expect.refused("0 from 9999", ARGUMENT, () -> atMinute(9999), x -> x.pass(0));
        Expect.refused("91 from 9999", ARGUMENT, () -> atMinute(9999), x -> x.pass(91));
    }

    static void behindTheLastMinuteOtherCallsAreAnswered() {
        Orbitdock x = Scene.atMinute9990();
        x.pass(9);
        Expect.same("room", 2, x.addRoom(0));
        Expect.same("person", 0, x.board(2));
        Expect.same("device", 0, x.addDevice('l', 2));
        Expect.same("waiting", 1, x.send('n', 0, 99, 99));
        Expect.same("ship", 0, x.approach(1, 1));
        Expect.same("was safe", false, x.endSafe());
        Expect.same("left", 3, x.timeLeft());
        Expect.same("worst", 3, x.worst());
        Expect.same("sound", true, x.isSound());
        Expect.same("events", 0, x.events());
    }

    // In the minute 10 a lamp is told to be on, and a ship docks.
    static void commandsComeAheadOfShips() {
        Orbitdock x = Scene.oneRoom(0);
        x.addDevice('l', 0);
        x.approach(11, 0);
        x.burn(0, 1);
        x.send('n', 0, 1, 99);
        x.pass(11);
        Expect.same("events", "cd", Expect.eventsOf(x));
    }

    static void commandsComeAheadOfHatches() {
        Orbitdock x = Scene.twoRooms();
        x.addHatch(0, 1);
        x.setHatch(0, false);
        x.pass(10);
        x.send('o', 0, 1, 0);
        x.pass(1);
        Expect.same("ahead of its minute", 60, x.oxygen(0));
        x.pass(1);
        Expect.same("behind it", 40, x.oxygen(0));
        Orbitdock y = Scene.twoRooms();
        y.addHatch(0, 1);
        y.setHatch(0, false);
        y.pass(10);
        y.send('h', 0, 1, 0);
        y.pass(1);
        y.setHatch(0, true);
        y.pass(1);
        Expect.same("shut in its minute", 60, y.oxygen(0));
    }

    static void shipsComeAheadOfPeople() {
        Orbitdock x = Scene.alone(0);
        x.pass(2);
        x.approach(1, 0);
        x.burn(0, 1);
        x.endSafe();
        x.board(0);
        x.pass(1);
        Expect.same("events", "sdks", Expect.eventsOf(x));
    }

    static void devicesComeAheadOfLeaks() {
        Orbitdock x = Scene.oneRoom(0);
        Scene.turnOn(x, "e");
        x.setLeak(0, 2);
        x.pass(1);
        Expect.same("3 made, 2 lost", 1, x.oxygen(0));
        x.setLeak(0, 9);
        x.pass(1);
        Expect.same("3 made, 4 lost", 0, x.oxygen(0));
        Expect.same("sound", true, x.isSound());
    }

    static void leaksComeAheadOfHatches() {
        Orbitdock x = Scene.oneRoom(9);
        x.addRoom(0);
        x.addHatch(0, 1);
        x.setLeak(0, 9);
        x.pass(1);
        Expect.same("oxygen", 0, x.oxygen(1));
    }

    static void hatchesComeAheadOfPeople() {
        Orbitdock x = Scene.oneRoom(2);
        x.addRoom(0);
        x.addHatch(0, 1);
        x.board(1);
        x.pass(1);
        Expect.same("carbon", 1, x.carbon(1));
        Expect.same("carbon elsewhere", 0, x.carbon(0));
    }

    static void leaksComeAheadOfPeople() {
        Orbitdock x = Scene.alone(9);
        x.setLeak(0, 9);
        x.pass(1);
        Expect.same("carbon", 0, x.carbon(0));
    }

    static void scrubbersComeAheadOfPeople() {
        Orbitdock x = Scene.alone(100);
        Scene.turnOn(x, "s");
        x.pass(1);
        Expect.same("carbon of the minute", 1, x.carbon(0));
        x.pass(1);
        Expect.same("carbon of the minute", 1, x.carbon(0));
    }
}
