/** Promises 29 to 32: the figures. */
final class FiguresTest {
    static void promise29SumsRooms() {
        Orbitdock x = new Orbitdock();
        Expect.same("no rooms", 0L, x.checksum());
        x.addRoom(7);
        Expect.same("one room", 7L, x.checksum());
        x.addRoom(100);
        Expect.same("two rooms", 31L * 7 + 100, x.checksum());
        x.board(1);
        x.pass(5);
        Expect.same("with carbon", 31L * 7 + 95 + 7 * 5, x.checksum());
        x.addRoom(3);
        Expect.same("three rooms", 31L * (31 * 7 + 95 + 7 * 5) + 3, x.checksum());
    }

    static void promise29IsLong() {
        Orbitdock x = new Orbitdock();
        for (int i = 0; i < 6; i++) {
            x.addRoom(200);
        }
        long due = 0;
        for (int i = 0; i < 6; i++) {
            due = 31 * due + 200;
        }
        Expect.same("checksum", due, x.checksum());
        Expect.same("above int", true, due > Integer.MAX_VALUE);
    }

    static void promise30SharesTheLiving() {
        Orbitdock x = new Orbitdock();
        x.addRoom(0);
        x.addRoom(200);
        x.board(0);
        Expect.same("all", 1.0f, x.aliveShare());
        x.board(1);
        x.board(1);
        x.pass(3);
        Expect.same("two of three", 2.0f / 3.0f, x.aliveShare());
        x.board(0);
        x.pass(3);
        Expect.same("two of four", 0.5f, x.aliveShare());
        Orbitdock y = new Orbitdock();
        y.addRoom(0);
        y.board(0);
        y.pass(3);
        Expect.same("nobody", 0.0f, y.aliveShare());
    }

    static void promise30Refuses() {
        Expect.refused("aliveShare", ArithmeticException.class, Orbitdock::new, Orbitdock::aliveShare);
        Expect.refused("aliveShare", ArithmeticException.class, Scene::fullStation, Orbitdock::aliveShare);
    }

    static void promise31MeansOxygen() {
        Orbitdock x = new Orbitdock();
        x.addRoom(7);
        Expect.same("one room", 7.0, x.meanOxygen());
        x.addRoom(10);
        Expect.same("two rooms", 8.5, x.meanOxygen());
        x.addRoom(3);
        x.board(1);
        x.pass(2);
        Expect.same("three rooms, without carbon", 18.0 / 3.0, x.meanOxygen());
        x.pass(1);
        Expect.same("three rooms", 17.0 / 3.0, x.meanOxygen());
    }

    static void promise31Refuses() {
        Expect.refused("meanOxygen", ArithmeticException.class, Orbitdock::new, Orbitdock::meanOxygen);
    }

    static void promise32HoldsThroughout() {
        Expect.same("at first", true, new Orbitdock().isSound());
        Orbitdock x = Scene.fullStation();
        x.board(3);
        x.board(5);
        for (int i = 0; i < 8; i++) {
            x.setDevice(i, true);
            x.setLeak(i % 6, i);
        }
        x.approach(3, 77);
        x.burn(0, 2);
        x.send('n', 2, 2, 3);
        x.send('h', 3, 60, 99);
        for (int i = 0; i < 120; i++) {
            x.pass(1);
            Expect.same("behind minute " + i, true, x.isSound());
        }
        Expect.same("events", "dxskk", Expect.eventsOf(x));
    }

    static void promise32HoldsWhileACommandIsInItsLastMinute() {
        Orbitdock x = new Orbitdock();
        x.addRoom(5);
        x.addDevice('l', 0);
        x.pass(50);
        x.send('n', 0, 1, 1);
        for (int i = 0; i < 4; i++) {
            Expect.same("sound", true, x.isSound());
            x.pass(1);
        }
        Expect.same("events", "x", Expect.eventsOf(x));
    }

    static void promise29TheBoundsOfRooms() {
        Orbitdock x = Scene.oneRoom(0);
        Expect.same("an empty room", 0L, x.checksum());
        x.addRoom(200);
        Expect.same("behind a full one", 200L, x.checksum());
        x.addRoom(0);
        Expect.same("ahead of an empty one", 31L * 200, x.checksum());
    }

    static void promise29SumsSixRoomsWithMuchCarbon() {
        Orbitdock x = new Orbitdock();
        for (int i = 0; i < 6; i++) {
            x.addRoom(200);
            x.board(i);
        }
        x.pass(90);
        long due = 0;
        for (int i = 0; i < 6; i++) {
            due = 31 * due + 110 + 7 * 90;
        }
        Expect.same("checksum", due, x.checksum());
    }

    static void promise30IsTheNearestFloat() {
        for (int dead = 0; dead <= 6; dead++) {
            Orbitdock x = Scene.oneRoom(0);
            x.addRoom(200);
            for (int i = 0; i < 6; i++) {
                x.board(i < dead ? 0 : 1);
            }
            x.pass(3);
            Expect.same("share without " + dead, (float) (6 - dead) / (float) 6, x.aliveShare());
        }
    }

    static void promise31TheBoundsOfRooms() {
        Orbitdock x = Scene.oneRoom(0);
        Expect.same("an empty room", 0.0, x.meanOxygen());
        x.addRoom(200);
        Expect.same("and a full one", 100.0, x.meanOxygen());
        for (int i = 2; i < 6; i++) {
            x.addRoom(1);
        }
        Expect.same("six rooms", 204.0 / 6.0, x.meanOxygen());
    }

    static void promise32HoldsAtTheBoundsOfBatteryAndTank() {
        Orbitdock x = Scene.oneRoom(0);
        Scene.turnOn(x, "eeee");
        x.setPanels(0);
        x.pass(5);
        Expect.same("an empty battery", 0, x.battery());
        Expect.same("an empty tank", 0, x.water());
        Expect.same("sound", true, x.isSound());
        x.setPanels(40);
        for (int i = 0; i < 4; i++) {
            x.setDevice(i, false);
        }
        x.pass(5);
        Expect.same("a full battery", 200, x.battery());
        Expect.same("sound", true, x.isSound());
    }

    static void promise32HoldsWithFullStore() {
        Orbitdock x = Scene.alone(200);
        Scene.turnOn(x, "s");
        x.pass(90);
        Expect.same("carbon", 1, x.carbon(0));
        Expect.same("sound with 89 units in the store", true, x.isSound());
    }

    static void promise32HoldsInTheMinuteBehindTheLifeOfACommand() {
        int[] lives = {0, 1, 39};
        for (int life : lives) {
            Orbitdock x = Scene.oneRoom(5);
            x.addDevice('l', 0);
            x.pass(50);
            x.send('n', 0, 1, life);
            x.pass(1 + life + 1);
            Expect.same("waits", 0, x.events());
            Expect.same("sound, though its life is over", true, x.isSound());
            x.pass(1);
            Expect.same("expired", "x", Expect.eventsOf(x));
            Expect.same("sound", true, x.isSound());
        }
    }

    static void promise32HoldsInTheLastMinute() {
        Orbitdock x = Scene.fullOfAll();
        Scene.passTo(x, 0, 9999);
        Expect.same("sound", true, x.isSound());
    }
}
