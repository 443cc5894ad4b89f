/** What the terms "Devices", "Power" and "Water" say. */
final class PowerTest {
    static void batteryHoldsTwoHundred() {
        Orbitdock x = new Orbitdock();
        x.pass(10);
        Expect.same("battery", 200, x.battery());
        x.pass(1);
        Expect.same("battery", 200, x.battery());
    }

    static void panelsGiveInTheSunAlone() {
        Orbitdock x = Scene.oneRoom(0);
        x.setPanels(1);
        x.pass(60);
        Expect.same("behind minute 59", 160, x.battery());
        x.pass(30);
        Expect.same("behind the shade", 160, x.battery());
        x.pass(1);
        Expect.same("in the sun again", 161, x.battery());
    }

    static void devicesTakeTheirPower() {
        String kinds = "sel";
        int[] power = {3, 5, 2};
        for (int i = 0; i < kinds.length(); i++) {
            Orbitdock x = Scene.oneRoom(0);
            x.setPanels(0);
            Scene.turnOn(x, kinds.substring(i, i + 1));
            x.pass(1);
            Expect.same("battery with " + kinds.charAt(i), 100 - power[i], x.battery());
        }
    }

    static void devicesThatAreOffTakeNothing() {
        Orbitdock x = Scene.oneRoom(0);
        x.setPanels(0);
        x.addDevice('e', 0);
        x.pass(3);
        Expect.same("battery", 100, x.battery());
        Expect.same("water", 50, x.water());
    }

    static void panelPowerServesAFullBatteryToo() {
        Orbitdock x = Scene.oneRoom(0);
        x.setPanels(40);
        x.pass(5);
        Scene.turnOn(x, "e");
        x.pass(1);
        Expect.same("battery", 200, x.battery());
    }

    static void devicesRunOnlyWithEnoughPower() {
        Orbitdock x = emptyBattery();
        x.setDevice(0, true);
        x.setPanels(4);
        x.pass(1);
        Expect.same("4 are not enough", 4, x.battery());
        x.setPanels(1);
        x.pass(1);
        Expect.same("5 are enough", 0, x.battery());
    }

    static void batteryServesInTheShade() {
        Orbitdock x = Scene.oneRoom(0);
        x.pass(60);
        Scene.turnOn(x, "e");
        x.pass(10);
        Expect.same("battery", 150, x.battery());
        Expect.same("oxygen", 30, x.oxygen(0));
    }

    private static void turnOff(Orbitdock x, int devices) {
        for (int i = 0; i < devices; i++) {
            x.setDevice(i, false);
        }
    }

    // Brings the battery to 0 by electrolysers that are off again then.
    private static Orbitdock emptyBattery() {
        Orbitdock x = Scene.oneRoom(0);
        x.setPanels(0);
        Scene.turnOn(x, "eeeel");
        x.pass(5);
        turnOff(x, 5);
        return x;
    }

    static void aDeviceThatDoesNotRunLeavesThePower() {
        Orbitdock x = emptyBattery();
        Expect.same("battery", 0, x.battery());
        x.setDevice(0, true);
        x.setDevice(4, true);
        x.setPanels(4);
        x.pass(1);
        Expect.same("behind a lamp with 2 of 4", 2, x.battery());
        x.setPanels(3);
        x.pass(1);
        Expect.same("behind an electrolyser with 5 of 5", 0, x.battery());
    }

    static void scrubberTakesUpToFourCarbonOfItsRoom() {
        Orbitdock x = Scene.oneRoom(100);
        x.addRoom(100);
        x.board(0);
        x.board(1);
        x.pass(10);
        Scene.turnOn(x, "s");
        x.pass(1);
        Expect.same("carbon", 7, x.carbon(0));
        Expect.same("carbon elsewhere", 11, x.carbon(1));
        x.pass(2);
        Expect.same("carbon", 1, x.carbon(0));
        x.pass(1);
        Expect.same("carbon", 1, x.carbon(0));
        Expect.same("sound", true, x.isSound());
    }

    static void electrolyserMakesUpToThreeOxygenOfItsRoom() {
        Orbitdock x = Scene.oneRoom(0);
        x.addRoom(0);
        Scene.turnOn(x, "e");
        x.pass(1);
        Expect.same("oxygen", 3, x.oxygen(0));
        Expect.same("oxygen elsewhere", 0, x.oxygen(1));
        Expect.same("water", 47, x.water());
        x.pass(15);
        Expect.same("water", 2, x.water());
        x.pass(1);
        Expect.same("water", 0, x.water());
        Expect.same("oxygen", 50, x.oxygen(0));
        x.pass(1);
        Expect.same("oxygen", 50, x.oxygen(0));
    }

    static void devicesWithNothingToDoTakePower() {
        Orbitdock x = emptyBattery();
        Expect.same("water", 0, x.water());
        x.setPanels(40);
        x.pass(1);
        x.setPanels(0);
        x.setDevice(0, true);
        Scene.turnOn(x, "s");
        x.pass(1);
        Expect.same("battery", 32, x.battery());
    }

    // What the panels, at 1 unit a minute, give in the minutes that are told.
    private static void sameInMinutes(Orbitdock x, int from, int to, int due) {
        for (int minute = from; minute <= to; minute++) {
            int before = x.battery();
            x.pass(1);
            Expect.same("given in minute " + minute, due, x.battery() - before);
        }
    }

    static void theSunShinesFromMinute0To59OfEachOrbit() {
        Orbitdock x = new Orbitdock();
        x.setPanels(1);
        sameInMinutes(x, 0, 59, 1);
        sameInMinutes(x, 60, 89, 0);
        sameInMinutes(x, 90, 120, 1);
        Orbitdock later = Scene.oneRoom(0);
        later.setPanels(0);
        later.pass(90);
        later.setPanels(1);
        sameInMinutes(later, 90, 149, 1);
        sameInMinutes(later, 150, 179, 0);
        sameInMinutes(later, 180, 180, 1);
    }

    static void theSunOfTheLastOrbits() {
        Orbitdock x = new Orbitdock();
        x.setPanels(0);
        Scene.passTo(x, 0, 9958);
        x.setPanels(1);
        sameInMinutes(x, 9958, 9959, 1);
        sameInMinutes(x, 9960, 9989, 0);
        sameInMinutes(x, 9990, 9998, 1);
    }

    static void promise8TheBoundsOfThePanels() {
        Orbitdock x = new Orbitdock();
        Expect.same("at first", 10, x.setPanels(0));
        x.pass(1);
        Expect.same("battery behind 0", 100, x.battery());
        Expect.same("before", 0, x.setPanels(40));
        x.pass(1);
        Expect.same("battery behind 40", 140, x.battery());
        Expect.same("before", 40, x.setPanels(40));
    }

    static void theBatteryFillsUpToTwoHundredAndNoFurther() {
        int[] given = {1, 39, 40};
        int[] due = {180, 218, 219};
        for (int i = 0; i < given.length; i++) {
            Orbitdock x = new Orbitdock();
            x.setPanels(39);
            x.pass(1);
            x.setPanels(40);
            x.pass(1);
            x.setPanels(given[i]);
            x.pass(1);
            Expect.same("battery with " + given[i], Math.min(due[i], 200), x.battery());
        }
        Orbitdock x = new Orbitdock();
        x.setPanels(33);
        x.pass(3);
        Expect.same("battery", 199, x.battery());
        x.setPanels(1);
        x.pass(1);
        Expect.same("battery", 200, x.battery());
        x.pass(1);
        Expect.same("battery", 200, x.battery());
        Expect.same("sound", true, x.isSound());
    }

    static void aFullBatteryGivesWhatThePanelsLack() {
        Orbitdock x = Scene.oneRoom(0);
        x.pass(20);
        Expect.same("full", 200, x.battery());
        Scene.turnOn(x, "e");
        x.setPanels(4);
        x.pass(1);
        Expect.same("one less", 199, x.battery());
        x.setPanels(5);
        x.pass(1);
        Expect.same("as much as it takes", 199, x.battery());
        x.setPanels(6);
        x.pass(1);
        Expect.same("one more", 200, x.battery());
    }

    static void anEmptyBatteryInTheShadeRunsNothing() {
        Orbitdock x = emptyBattery();
        x.pass(55);
        x.approach(1, 50);
        x.burn(0, 1);
        x.setPanels(40);
        x.setDevice(0, true);
        x.pass(1);
        Expect.same("battery", 0, x.battery());
        Expect.same("water", 50, x.water());
        Expect.same("oxygen", 50, x.oxygen(0));
        Expect.same("still on", true, x.isOn(0));
        Expect.same("sound", true, x.isSound());
    }

    // Each kind with as much power as it takes, and with 1 unit less, by the panels alone.
    static void devicesRunWithJustEnoughPower() {
        String kinds = "sel";
        int[] power = {3, 5, 2};
        for (int i = 0; i < kinds.length(); i++) {
            Orbitdock x = emptyBattery();
            int device = x.addDevice(kinds.charAt(i), 0);
            x.setDevice(device, true);
            x.setPanels(power[i] - 1);
            x.pass(1);
            Expect.same("too little for " + kinds.charAt(i), power[i] - 1, x.battery());
            x.setPanels(1);
            x.pass(1);
            Expect.same("enough for " + kinds.charAt(i), 0, x.battery());
        }
    }

    static void devicesThatDoNotRunDoNothing() {
        Orbitdock x = emptyBattery();
        x.board(0);
        x.pass(5);
        x.approach(1, 9);
        x.burn(0, 1);
        x.setDevice(0, true);
        int scrubber = x.addDevice('s', 0);
        x.setDevice(scrubber, true);
        x.setPanels(2);
        x.pass(1);
        Expect.same("water", 9, x.water());
        Expect.same("oxygen", 44, x.oxygen(0));
        Expect.same("carbon", 6, x.carbon(0));
        x.setPanels(1);
        x.pass(1);
        Expect.same("the scrubber ran", 3, x.carbon(0));
        Expect.same("water", 9, x.water());
    }

    static void whatEarlierDevicesTookIsGoneForLaterOnes() {
        Orbitdock x = emptyBattery();
        x.setDevice(4, true);
        int scrubber = x.addDevice('s', 0);
        int lamp = x.addDevice('l', 0);
        x.setDevice(scrubber, true);
        x.setDevice(lamp, true);
        x.setPanels(4);
        x.pass(1);
        Expect.same("a lamp, no scrubber, a lamp", 0, x.battery());
        x.setPanels(5);
        x.pass(1);
        Expect.same("a lamp and a scrubber", 0, x.battery());
        x.setPanels(6);
        x.pass(1);
        Expect.same("a lamp and a scrubber", 1, x.battery());
        x.setPanels(6);
        x.pass(1);
        Expect.same("all", 0, x.battery());
    }

    static void lampsDoNothing() {
        Orbitdock x = Scene.alone(100);
        Scene.turnOn(x, "l");
        x.pass(7);
        Expect.same("oxygen", 93, x.oxygen(0));
        Expect.same("carbon", 7, x.carbon(0));
        Expect.same("water", 50, x.water());
    }

    // Somebody breathes, so a minute with a scrubber leaves 1 unit more than the scrubber alone does.
    static void scrubbersTakeFourOrWhatThereIs() {
        int[] carbon = {0, 1, 3, 4, 5, 9};
        int[] left = {0, 0, 0, 0, 1, 5};
        for (int i = 0; i < carbon.length; i++) {
            Orbitdock x = Scene.alone(100);
            if (carbon[i] > 0) {
                x.pass(carbon[i]);
            }
            Scene.turnOn(x, "s");
            x.pass(1);
            Expect.same("carbon of " + carbon[i], left[i] + 1, x.carbon(0));
            Expect.same("sound", true, x.isSound());
        }
    }

    // Ships bring what the first 50 units lack to leave the units that are told.
    private static Orbitdock withWater(int units) {
        Orbitdock x = Scene.oneRoom(0);
        Scene.turnOn(x, "e");
        x.pass(17);
        x.setDevice(0, false);
        if (units > 0) {
            x.approach(1, units);
            x.burn(0, 1);
            x.pass(1);
        }
        Expect.same("water", units, x.water());
        return x;
    }

    static void electrolysersMakeThreeOrWhatTheTankHas() {
        for (int units = 0; units <= 5; units++) {
            Orbitdock x = withWater(units);
            x.setDevice(0, true);
            x.pass(1);
            Expect.same("water of " + units, Math.max(0, units - 3), x.water());
            Expect.same("oxygen of " + units, 50 + Math.min(units, 3), x.oxygen(0));
            Expect.same("sound", true, x.isSound());
        }
    }

    static void electrolysersShareTheLastWaterByRisingNumbers() {
        Orbitdock x = withWater(4);
        x.addRoom(0);
        x.addRoom(0);
        int other = x.addDevice('e', 1);
        int last = x.addDevice('e', 2);
        x.setDevice(0, true);
        x.setDevice(other, true);
        x.setDevice(last, true);
        int before = x.battery();
        x.pass(1);
        Expect.same("the first", 53, x.oxygen(0));
        Expect.same("the second", 1, x.oxygen(1));
        Expect.same("the third", 0, x.oxygen(2));
        Expect.same("water", 0, x.water());
        Expect.same("power for all", Math.min(200, before + 10 - 15), x.battery());
        Expect.same("sound", true, x.isSound());
    }

    static void theTankHasNoBound() {
        Orbitdock x = new Orbitdock();
        for (int i = 0; i < 4; i++) {
            x.approach(1, 99);
            x.burn(i, 2);
        }
        x.pass(1);
        Expect.same("water", 446, x.water());
        Expect.same("sound", true, x.isSound());
    }

    static void oxygenMayRiseAboveWhatARoomBeginsWith() {
        Orbitdock x = Scene.oneRoom(200);
        Scene.turnOn(x, "e");
        x.pass(1);
        Expect.same("oxygen", 203, x.oxygen(0));
        x.pass(16);
        Expect.same("oxygen", 250, x.oxygen(0));
    }
}
