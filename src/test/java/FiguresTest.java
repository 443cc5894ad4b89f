/** Promises 29 to 32: the figures. */
final class FiguresTest {
    static void promise29SumsRooms() {
        Orbitdock x = new Orbitdock();
        Expect.same("no rooms", 0L, x.checksum());
        x.addRoom(7);
        Expect.same("one room", 7L, x.checksum());
        x.addRoom(100);
        Expect.same("two rooms", 31L * 7 + 100, x.checksum());
        x.board(1);
        x.pass(5);
        Expect.same("with carbon", 31L * 7 + 95 + 7 * 5, x.checksum());
        x.addRoom(3);
        Expect.same("three rooms", 31L * (31 * 7 + 95 + 7 * 5) + 3, x.checksum());
    }

    static void promise29IsLong() {
        Orbitdock x = new Orbitdock();
        for (int i = 0; i < 6; i++) {
            x.addRoom(200);
        }
        long due = 0;
        for (int i = 0; i < 6; i++) {
            due = 31 * due + 200;
        }
        Expect.same("checksum", due, x.checksum());
        Expect.same("above int", true, due > Integer.MAX_VALUE);
    }

    static void promise30SharesTheLiving() {
        Orbitdock x = new Orbitdock();
        x.addRoom(0);
        x.addRoom(200);
        x.board(0);
        Expect.same("all", 1.0f, x.aliveShare());
        x.board(1);
        x.board(1);
        x.pass(3);
        Expect.same("two of three", 2.0f / 3.0f, x.aliveShare());
        x.board(0);
        x.pass(3);
        Expect.same("two of four", 0.5f, x.aliveShare());
        Orbitdock y = new Orbitdock();
        y.addRoom(0);
        y.board(0);
        y.pass(3);
        Expect.same("nobody", 0.0f, y.aliveShare());
    }

    static void promise30Refuses() {
        Expect.refused("aliveShare", ArithmeticException.class, Orbitdock::new, Orbitdock::aliveShare);
        Expect.refused("aliveShare", ArithmeticException.class, Scene::fullStation, Orbitdock::aliveShare);
    }

    static void promise31MeansOxygen() {
        Orbitdock x = new Orbitdock();
        x.addRoom(7);
        Expect.same("one room", 7.0, x.meanOxygen());
        x.addRoom(10);
        Expect.same("two rooms", 8.5, x.meanOxygen());
        x.addRoom(3);
        x.board(1);
        x.pass(2);
        Expect.same("three rooms, without carbon", 18.0 / 3.0, x.meanOxygen());
        x.pass(1);
        Expect.same("three rooms", 17.0 / 3.0, x.meanOxygen());
    }

    static void promise31Refuses() {
        Expect.refused("meanOxygen", ArithmeticException.class, Orbitdock::new, Orbitdock::meanOxygen);
    }

    static void promise32HoldsThroughout() {
        Expect.same("at first", true, new Orbitdock().isSound());
        Orbitdock x = Scene.fullStation();
        x.board(3);
        x.board(5);
        for (int i = 0; i < 8; i++) {
            x.setDevice(i, true);
            x.setLeak(i % 6, i);
        }
        x.approach(3, 77);
        x.burn(0, 2);
        x.send('n', 2, 2, 3);
        x.send('h', 3, 60, 99);
        for (int i = 0; i < 120; i++) {
            x.pass(1);
            Expect.same("behind minute " + i, true, x.isSound());
        }
        Expect.same("events", "dxskk", Expect.eventsOf(x));
    }

    static void promise32HoldsWhileACommandIsInItsLastMinute() {
        Orbitdock x = new Orbitdock();
        x.addRoom(5);
        x.addDevice('l', 0);
        x.pass(50);
        x.send('n', 0, 1, 1);
        for (int i = 0; i < 4; i++) {
            Expect.same("sound", true, x.isSound());
            x.pass(1);
        }
        Expect.same("events", "x", Expect.eventsOf(x));
    }
}
