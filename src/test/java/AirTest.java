/** What the terms "Rooms" and "A minute" say of leaks and hatches. */
final class AirTest {
    static void leaksLoseOxygenAlone() {
        Orbitdock x = Scene.oneRoom(20);
        x.board(0);
        x.pass(3);
        x.setLeak(0, 8);
        x.pass(1);
        Expect.same("oxygen", 8, x.oxygen(0));
        Expect.same("carbon", 4, x.carbon(0));
        x.setLeak(0, 9);
        x.pass(1);
        Expect.same("oxygen", 0, x.oxygen(0));
        Expect.same("carbon", 4, x.carbon(0));
        Expect.same("sound", true, x.isSound());
    }

    static void hatchesLevelByHalfRoundedDown() {
        Orbitdock x = Scene.oneRoom(7);
        x.addRoom(0);
        x.addHatch(0, 1);
        x.pass(1);
        Expect.same("oxygen", 4, x.oxygen(0));
        Expect.same("oxygen", 3, x.oxygen(1));
        x.pass(1);
        Expect.same("a difference of 1 stays", 4, x.oxygen(0));
        Orbitdock y = Scene.oneRoom(0);
        y.addRoom(7);
        y.addHatch(0, 1);
        y.pass(1);
        Expect.same("oxygen", 3, y.oxygen(0));
        Expect.same("oxygen", 4, y.oxygen(1));
    }

    static void hatchesLevelCarbonBothWays() {
        Orbitdock x = Scene.oneRoom(100);
        x.addRoom(100);
        int hatch = x.addHatch(0, 1);
        x.setHatch(hatch, false);
        x.board(0);
        x.pass(9);
        x.setHatch(hatch, true);
        x.pass(1);
        Expect.same("carbon", 6, x.carbon(0));
        Expect.same("carbon", 4, x.carbon(1));
        x.move(0, 1);
        x.setHatch(hatch, false);
        x.pass(9);
        x.setHatch(hatch, true);
        x.pass(1);
        Expect.same("carbon", 9, x.carbon(0));
        Expect.same("carbon", 11, x.carbon(1));
    }

    static void hatchesActByRisingNumbers() {
        Orbitdock x = Scene.oneRoom(80);
        x.addRoom(0);
        x.addRoom(0);
        x.addHatch(0, 1);
        x.addHatch(1, 2);
        x.pass(1);
        Expect.same("checksum", 40L * 961 + 20 * 31 + 20, x.checksum());
        Orbitdock y = Scene.oneRoom(80);
        y.addRoom(0);
        y.addRoom(0);
        y.addHatch(1, 2);
        y.addHatch(0, 1);
        y.pass(1);
        Expect.same("checksum", 40L * 961 + 40 * 31, y.checksum());
    }

    static void leaksLoseTheirUnitsOrWhatThereIs() {
        for (int leak = 0; leak <= 9; leak++) {
            for (int oxygen = 0; oxygen <= 11; oxygen++) {
                Orbitdock x = Scene.oneRoom(oxygen);
                x.setLeak(0, leak);
                x.pass(1);
                Expect.same("oxygen of " + oxygen, Math.max(0, oxygen - leak), x.oxygen(0));
                Expect.same("sound", true, x.isSound());
            }
        }
    }

    static void leaksComeEachMinute() {
        Orbitdock x = Scene.oneRoom(200);
        x.setLeak(0, 9);
        x.pass(22);
        Expect.same("oxygen", 2, x.oxygen(0));
        x.pass(1);
        Expect.same("oxygen", 0, x.oxygen(0));
        x.pass(1);
        Expect.same("oxygen", 0, x.oxygen(0));
        Expect.same("sound", true, x.isSound());
    }

    // Half of the difference, rounded down: 0 of 0 and of 1, 1 of 2 and of 3, and so on, from either side.
    static void hatchesMoveHalfOfEachDifference() {
        for (int more = 20; more <= 26; more++) {
            int over = (more - 20) / 2;
            Orbitdock x = Scene.oneRoom(more);
            x.addRoom(20);
            x.addHatch(0, 1);
            x.pass(1);
            Expect.same("from the first", more - over, x.oxygen(0));
            Expect.same("to the second", 20 + over, x.oxygen(1));
            Orbitdock y = Scene.oneRoom(20);
            y.addRoom(more);
            y.addHatch(0, 1);
            y.pass(1);
            Expect.same("to the first", 20 + over, y.oxygen(0));
            Expect.same("from the second", more - over, y.oxygen(1));
        }
    }

    // Room 0 gets the carbon that is told by somebody who then goes out of the way.
    private static Orbitdock withCarbon(int carbon, boolean inFirst) {
        Orbitdock x = Scene.oneRoom(100);
        x.addRoom(100);
        x.addRoom(100);
        int level = x.addHatch(0, 1);
        int way = x.addHatch(inFirst ? 0 : 1, 2);
        x.setHatch(level, false);
        x.setHatch(way, false);
        x.board(inFirst ? 0 : 1);
        if (carbon > 0) {
            x.pass(carbon);
        }
        x.setHatch(way, true);
        x.move(0, 2);
        x.setHatch(way, false);
        x.setHatch(level, true);
        return x;
    }

    static void hatchesMoveHalfOfEachDifferenceOfCarbonToo() {
        for (int carbon = 0; carbon <= 6; carbon++) {
            int over = carbon / 2;
            Orbitdock x = withCarbon(carbon, true);
            x.pass(1);
            Expect.same("from the first", carbon - over, x.carbon(0));
            Expect.same("to the second", over, x.carbon(1));
            // What was breathed comes back as oxygen, from the other side.
            Expect.same("oxygen of the first", 100 - carbon + over, x.oxygen(0));
            Expect.same("oxygen of the second", 100 - over, x.oxygen(1));
            Orbitdock y = withCarbon(carbon, false);
            y.pass(1);
            Expect.same("to the first", over, y.carbon(0));
            Expect.same("from the second", carbon - over, y.carbon(1));
        }
    }

    static void hatchesThatAreShutMoveNothing() {
        Orbitdock x = withCarbon(6, true);
        x.setHatch(0, false);
        x.pass(1);
        Expect.same("carbon", 6, x.carbon(0));
        Expect.same("carbon", 0, x.carbon(1));
        Expect.same("oxygen", 94, x.oxygen(0));
        Expect.same("oxygen", 100, x.oxygen(1));
    }

    static void hatchesNeedNoAir() {
        Orbitdock x = Scene.oneRoom(0);
        x.addRoom(0);
        x.addHatch(0, 1);
        x.pass(1);
        Expect.same("checksum", 0L, x.checksum());
    }
}
