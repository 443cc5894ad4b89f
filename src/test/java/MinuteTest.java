/** Promises 15 and 16, and what the terms say of a minute, power, air, people and the safe mode. */
final class MinuteTest {
    private static final Class<IllegalArgumentException> ARGUMENT = IllegalArgumentException.class;

    private static Orbitdock oneRoom(int oxygen) {
        Orbitdock x = new Orbitdock();
        x.addRoom(oxygen);
        return x;
    }

    private static Orbitdock atMinute9990() {
        Orbitdock x = StationTest.twoRooms();
        for (int i = 0; i < 111; i++) {
            x.pass(90);
        }
        return x;
    }

    private static void turnOn(Orbitdock x, String kinds) {
        for (int i = 0; i < kinds.length(); i++) {
            x.setDevice(x.addDevice(kinds.charAt(i), 0), true);
        }
    }

    // pass.

    static void promise15ReturnsTheMinute() {
        Orbitdock x = new Orbitdock();
        Expect.same("minute", 1, x.pass(1));
        Expect.same("minute", 91, x.pass(90));
        Expect.same("minute", 93, x.pass(2));
    }

    static void promise15ManyMinutesAreSingleOnes() {
        Orbitdock many = StationTest.safeStation();
        Orbitdock single = StationTest.safeStation();
        many.pass(37);
        for (int i = 0; i < 37; i++) {
            single.pass(1);
        }
        Expect.same("all", Probe.answers(many), Probe.answers(single));
    }

    static void promise15Refuses() {
        for (int minutes : new int[] {0, 91, -1, Integer.MIN_VALUE, Integer.MAX_VALUE}) {
            Expect.refused("pass", ARGUMENT, StationTest::twoRooms, x -> x.pass(minutes));
            Expect.refused("pass at the end", ARGUMENT, MinuteTest::atMinute9990, x -> x.pass(minutes));
        }
        for (int minutes : new int[] {10, 90}) {
            Expect.refused("pass", ArithmeticException.class, MinuteTest::atMinute9990, x -> x.pass(minutes));
        }
    }

    static void promise15ReachesMinute9999() {
        Orbitdock x = atMinute9990();
        Expect.same("minute", 9999, x.pass(9));
        Expect.same("one more", ArithmeticException.class, Expect.thrownBy(() -> x.pass(1)));
        Expect.same("no minutes", ARGUMENT, Expect.thrownBy(() -> x.pass(0)));
    }

    // endSafe and the safe mode.

    static void promise16ReturnsWhetherItWas() {
        Orbitdock x = StationTest.safeStation();
        Expect.same("was", true, x.endSafe());
        Expect.same("is", false, x.isSafe());
        Expect.same("was", false, x.endSafe());
        x.pass(1);
        Expect.same("begins anew", true, x.isSafe());
        Expect.same("events", "ss", Expect.eventsOf(x));
    }

    static void safeModeBeginsBelowTenOxygen() {
        Orbitdock x = oneRoom(12);
        x.board(0);
        x.pass(2);
        Expect.same("at 10", false, x.isSafe());
        x.pass(1);
        Expect.same("at 9", true, x.isSafe());
        Expect.same("events", "s", Expect.eventsOf(x));
        x.pass(1);
        Expect.same("goes on without an event", "s", Expect.eventsOf(x));
    }

    static void safeModeBeginsAboveFortyCarbon() {
        Orbitdock x = oneRoom(200);
        x.board(0);
        x.pass(40);
        Expect.same("carbon", 40, x.carbon(0));
        Expect.same("at 40", false, x.isSafe());
        x.pass(1);
        Expect.same("at 41", true, x.isSafe());
    }

    static void safeModeNeedsSomebodyAliveThere() {
        Orbitdock x = oneRoom(0);
        x.addRoom(200);
        x.board(1);
        x.pass(5);
        Expect.same("nobody there", false, x.isSafe());
        x.board(0);
        x.pass(3);
        Expect.same("events", "sk", Expect.eventsOf(x));
        x.endSafe();
        x.pass(5);
        Expect.same("a dead one there", false, x.isSafe());
    }

    static void safeModeWaitsForAMinute() {
        Orbitdock x = oneRoom(0);
        x.board(0);
        Expect.same("ahead of it", false, x.isSafe());
        x.pass(1);
        Expect.same("behind it", true, x.isSafe());
    }

    static void safeModeTurnsLampsOffAndWorkToRest() {
        Orbitdock x = oneRoom(60);
        x.addRoom(200);
        turnOn(x, "lsel");
        x.board(0);
        x.board(1);
        x.board(1);
        x.board(1);
        x.setTask(0, 's');
        x.setTask(1, 'w');
        x.setTask(3, 'w');
        x.setLeak(0, 9);
        x.pass(20);
        Expect.same("safe", true, x.isSafe());
        Expect.same("lamps", false, x.isOn(0) || x.isOn(3));
        Expect.same("others", true, x.isOn(1) && x.isOn(2));
        Expect.same("asleep", 's', x.setTask(0, 's'));
        Expect.same("who worked", 'r', x.setTask(1, 'r'));
        Expect.same("who rested", 'r', x.setTask(2, 'r'));
        Expect.same("who worked", 'r', x.setTask(3, 'r'));
    }

    static void safeModeComesBehindThePeopleOfItsMinute() {
        Orbitdock x = oneRoom(11);
        x.board(0);
        x.setTask(0, 'w');
        x.pass(1);
        Expect.same("oxygen", 9, x.oxygen(0));
        Expect.same("safe", true, x.isSafe());
        x.pass(1);
        Expect.same("oxygen behind a minute of rest", 8, x.oxygen(0));
    }

    // Power and devices.

    static void batteryHoldsTwoHundred() {
        Orbitdock x = new Orbitdock();
        x.pass(10);
        Expect.same("battery", 200, x.battery());
        x.pass(1);
        Expect.same("battery", 200, x.battery());
    }

    static void panelsGiveInTheSunAlone() {
        Orbitdock x = oneRoom(0);
        x.setPanels(1);
        x.pass(60);
        Expect.same("behind minute 59", 160, x.battery());
        x.pass(30);
        Expect.same("behind the shade", 160, x.battery());
        x.pass(1);
        Expect.same("in the sun again", 161, x.battery());
    }

    static void devicesTakeTheirPower() {
        String kinds = "sel";
        int[] power = {3, 5, 2};
        for (int i = 0; i < kinds.length(); i++) {
            Orbitdock x = oneRoom(0);
            x.setPanels(0);
            turnOn(x, kinds.substring(i, i + 1));
            x.pass(1);
            Expect.same("battery with " + kinds.charAt(i), 100 - power[i], x.battery());
        }
    }

    static void devicesThatAreOffTakeNothing() {
        Orbitdock x = oneRoom(0);
        x.setPanels(0);
        x.addDevice('e', 0);
        x.pass(3);
        Expect.same("battery", 100, x.battery());
        Expect.same("water", 50, x.water());
    }

    static void panelPowerServesAFullBatteryToo() {
        Orbitdock x = oneRoom(0);
        x.setPanels(40);
        x.pass(5);
        turnOn(x, "e");
        x.pass(1);
        Expect.same("battery", 200, x.battery());
    }

    static void devicesRunOnlyWithEnoughPower() {
        Orbitdock x = emptyBattery();
        x.setDevice(0, true);
        x.setPanels(4);
        x.pass(1);
        Expect.same("4 are not enough", 4, x.battery());
        x.setPanels(1);
        x.pass(1);
        Expect.same("5 are enough", 0, x.battery());
    }

    static void batteryServesInTheShade() {
        Orbitdock x = oneRoom(0);
        x.pass(60);
        turnOn(x, "e");
        x.pass(10);
        Expect.same("battery", 150, x.battery());
        Expect.same("oxygen", 30, x.oxygen(0));
    }

    private static void turnOff(Orbitdock x, int devices) {
        for (int i = 0; i < devices; i++) {
            x.setDevice(i, false);
        }
    }

    // Brings the battery to 0 by electrolysers that are off again then.
    private static Orbitdock emptyBattery() {
        Orbitdock x = oneRoom(0);
        x.setPanels(0);
        turnOn(x, "eeeel");
        x.pass(5);
        turnOff(x, 5);
        return x;
    }

    static void aDeviceThatDoesNotRunLeavesThePower() {
        Orbitdock x = emptyBattery();
        Expect.same("battery", 0, x.battery());
        x.setDevice(0, true);
        x.setDevice(4, true);
        x.setPanels(4);
        x.pass(1);
        Expect.same("behind a lamp with 2 of 4", 2, x.battery());
        x.setPanels(3);
        x.pass(1);
        Expect.same("behind an electrolyser with 5 of 5", 0, x.battery());
    }

    static void scrubberTakesUpToFourCarbonOfItsRoom() {
        Orbitdock x = oneRoom(100);
        x.addRoom(100);
        x.board(0);
        x.board(1);
        x.pass(10);
        turnOn(x, "s");
        x.pass(1);
        Expect.same("carbon", 7, x.carbon(0));
        Expect.same("carbon elsewhere", 11, x.carbon(1));
        x.pass(2);
        Expect.same("carbon", 1, x.carbon(0));
        x.pass(1);
        Expect.same("carbon", 1, x.carbon(0));
        Expect.same("sound", true, x.isSound());
    }

    static void electrolyserMakesUpToThreeOxygenOfItsRoom() {
        Orbitdock x = oneRoom(0);
        x.addRoom(0);
        turnOn(x, "e");
        x.pass(1);
        Expect.same("oxygen", 3, x.oxygen(0));
        Expect.same("oxygen elsewhere", 0, x.oxygen(1));
        Expect.same("water", 47, x.water());
        x.pass(15);
        Expect.same("water", 2, x.water());
        x.pass(1);
        Expect.same("water", 0, x.water());
        Expect.same("oxygen", 50, x.oxygen(0));
        x.pass(1);
        Expect.same("oxygen", 50, x.oxygen(0));
    }

    static void devicesWithNothingToDoTakePower() {
        Orbitdock x = emptyBattery();
        Expect.same("water", 0, x.water());
        x.setPanels(40);
        x.pass(1);
        x.setPanels(0);
        x.setDevice(0, true);
        turnOn(x, "s");
        x.pass(1);
        Expect.same("battery", 32, x.battery());
    }

    // Air.

    static void leaksLoseOxygenAlone() {
        Orbitdock x = oneRoom(20);
        x.board(0);
        x.pass(3);
        x.setLeak(0, 8);
        x.pass(1);
        Expect.same("oxygen", 8, x.oxygen(0));
        Expect.same("carbon", 4, x.carbon(0));
        x.setLeak(0, 9);
        x.pass(1);
        Expect.same("oxygen", 0, x.oxygen(0));
        Expect.same("carbon", 4, x.carbon(0));
        Expect.same("sound", true, x.isSound());
    }

    static void hatchesLevelByHalfRoundedDown() {
        Orbitdock x = oneRoom(7);
        x.addRoom(0);
        x.addHatch(0, 1);
        x.pass(1);
        Expect.same("oxygen", 4, x.oxygen(0));
        Expect.same("oxygen", 3, x.oxygen(1));
        x.pass(1);
        Expect.same("a difference of 1 stays", 4, x.oxygen(0));
        Orbitdock y = oneRoom(0);
        y.addRoom(7);
        y.addHatch(0, 1);
        y.pass(1);
        Expect.same("oxygen", 3, y.oxygen(0));
        Expect.same("oxygen", 4, y.oxygen(1));
    }

    static void hatchesLevelCarbonBothWays() {
        Orbitdock x = oneRoom(100);
        x.addRoom(100);
        int hatch = x.addHatch(0, 1);
        x.setHatch(hatch, false);
        x.board(0);
        x.pass(9);
        x.setHatch(hatch, true);
        x.pass(1);
        Expect.same("carbon", 6, x.carbon(0));
        Expect.same("carbon", 4, x.carbon(1));
        x.move(0, 1);
        x.setHatch(hatch, false);
        x.pass(9);
        x.setHatch(hatch, true);
        x.pass(1);
        Expect.same("carbon", 9, x.carbon(0));
        Expect.same("carbon", 11, x.carbon(1));
    }

    static void hatchesActByRisingNumbers() {
        Orbitdock x = oneRoom(80);
        x.addRoom(0);
        x.addRoom(0);
        x.addHatch(0, 1);
        x.addHatch(1, 2);
        x.pass(1);
        Expect.same("checksum", 40L * 961 + 20 * 31 + 20, x.checksum());
        Orbitdock y = oneRoom(80);
        y.addRoom(0);
        y.addRoom(0);
        y.addHatch(1, 2);
        y.addHatch(0, 1);
        y.pass(1);
        Expect.same("checksum", 40L * 961 + 40 * 31, y.checksum());
    }

    static void theStepsOfAMinuteComeInTheirOrder() {
        Orbitdock x = oneRoom(0);
        x.addRoom(0);
        x.addHatch(0, 1);
        x.setLeak(0, 1);
        turnOn(x, "e");
        x.board(1);
        x.pass(1);
        // 3 are made, 1 leaks, 1 goes through the hatch, and is breathed.
        Expect.same("oxygen", 1, x.oxygen(0));
        Expect.same("oxygen", 0, x.oxygen(1));
        Expect.same("carbon", 1, x.carbon(1));
    }

    // People.

    static void peopleBreatheByTask() {
        Orbitdock x = oneRoom(100);
        x.addRoom(100);
        x.addRoom(100);
        x.board(0);
        x.board(1);
        x.board(2);
        x.setTask(1, 'w');
        x.setTask(2, 's');
        x.pass(1);
        Expect.same("sleeper in minute 0", 99, x.oxygen(2));
        x.pass(1);
        Expect.same("sleeper in minute 1", 99, x.oxygen(2));
        x.pass(2);
        Expect.same("at rest", 96, x.oxygen(0));
        Expect.same("at rest", 4, x.carbon(0));
        Expect.same("at work", 92, x.oxygen(1));
        Expect.same("at work", 8, x.carbon(1));
        Expect.same("asleep", 98, x.oxygen(2));
        Expect.same("asleep", 2, x.carbon(2));
    }

    static void sleepersBreatheInEvenMinutes() {
        Orbitdock x = oneRoom(100);
        x.board(0);
        x.setTask(0, 's');
        for (int minute = 0; minute < 20; minute++) {
            x.pass(1);
            Expect.same("behind minute " + minute, 99 - minute / 2, x.oxygen(0));
        }
    }

    static void peopleBreatheByRisingNumbers() {
        Orbitdock x = oneRoom(1);
        x.board(0);
        x.board(0);
        x.pass(3);
        Expect.same("the first one got a unit", 0, x.whereIs(0));
        Expect.same("the second one", -1, x.whereIs(1));
        x.pass(1);
        Expect.same("the first one", -1, x.whereIs(0));
    }

    static void somebodyDiesInTheThirdShortMinute() {
        Orbitdock x = oneRoom(0);
        x.board(0);
        x.pass(2);
        Expect.same("behind two", 0, x.whereIs(0));
        Expect.same("events", "s", Expect.eventsOf(x));
        x.pass(1);
        Expect.same("behind three", -1, x.whereIs(0));
        Expect.same("events", "sk", Expect.eventsOf(x));
        x.pass(5);
        Expect.same("nobody dies twice", "sk", Expect.eventsOf(x));
    }

    static void aWorkerWithOneUnitGetsTooLittle() {
        Orbitdock x = oneRoom(0);
        x.board(0);
        x.pass(1);
        x.endSafe();
        x.setTask(0, 'w');
        turnOn(x, "e");
        x.setLeak(0, 2);
        x.pass(1);
        Expect.same("carbon", 1, x.carbon(0));
        Expect.same("at rest by the safe mode", 'r', x.setTask(0, 'r'));
        x.setDevice(0, false);
        x.pass(1);
        Expect.same("dies in the third minute", -1, x.whereIs(0));
    }

    static void enoughAirEndsTheRow() {
        Orbitdock x = oneRoom(0);
        x.board(0);
        turnOn(x, "e");
        x.setLeak(0, 3);
        x.pass(2);
        x.setLeak(0, 2);
        x.pass(1);
        Expect.same("carbon", 1, x.carbon(0));
        x.setLeak(0, 3);
        x.pass(2);
        Expect.same("lives behind two more", 0, x.whereIs(0));
        x.pass(1);
        Expect.same("dies behind three", -1, x.whereIs(0));
    }

    static void aSleeperWhoNeedsNothingEndsTheRow() {
        Orbitdock x = oneRoom(0);
        x.board(0);
        x.setTask(0, 's');
        x.pass(20);
        Expect.same("lives on", 0, x.whereIs(0));
        x.setTask(0, 'r');
        x.pass(2);
        Expect.same("lives on", 0, x.whereIs(0));
        x.pass(1);
        Expect.same("dies", -1, x.whereIs(0));
    }

    static void whoDiedUsesNothing() {
        Orbitdock x = oneRoom(0);
        x.board(0);
        x.pass(3);
        turnOn(x, "e");
        x.pass(4);
        Expect.same("oxygen", 12, x.oxygen(0));
        Expect.same("carbon", 0, x.carbon(0));
    }

    static void peopleDieByRisingNumbersAheadOfTheSafeMode() {
        Orbitdock x = oneRoom(0);
        x.board(0);
        x.board(0);
        x.pass(2);
        x.endSafe();
        x.board(0);
        x.pass(1);
        Expect.same("events", "skks", Expect.eventsOf(x));
    }
}
