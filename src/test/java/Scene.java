/** Stations to begin tests with. */
final class Scene {
    private Scene() { }

    static Orbitdock oneRoom(int oxygen) {
        Orbitdock x = new Orbitdock();
        x.addRoom(oxygen);
        return x;
    }

    static Orbitdock twoRooms() {
        Orbitdock x = oneRoom(60);
        x.addRoom(20);
        return x;
    }

    static Orbitdock alone(int oxygen) {
        Orbitdock x = oneRoom(oxygen);
        x.board(0);
        return x;
    }

    static Orbitdock fullStation() {
        Orbitdock x = new Orbitdock();
        for (int i = 0; i < 6; i++) {
            x.addRoom(30 * i);
        }
        for (int i = 0; i < 8; i++) {
            x.addHatch(i % 6, (i + 1) % 6);
            x.addDevice("sel".charAt(i % 3), i % 6);
        }
        return x;
    }

    // As many of all as there may be.
    static Orbitdock fullOfAll() {
        Orbitdock x = fullStation();
        for (int i = 0; i < 6; i++) {
            x.board(i);
        }
        for (int i = 0; i < 4; i++) {
            x.approach(100 + i, i);
        }
        for (int i = 0; i < 12; i++) {
            x.send("nfoh".charAt(i % 4), i % 8, 20 + i, i);
        }
        return x;
    }

    // In the safe mode, in the minute 1: somebody is in a room with 8 units, somebody else in a good one.
    static Orbitdock safeStation() {
        Orbitdock x = oneRoom(9);
        x.addRoom(100);
        x.addHatch(0, 1);
        x.setHatch(0, false);
        x.addDevice('l', 0);
        x.addDevice('s', 0);
        x.board(0);
        x.board(1);
        x.pass(1);
        return x;
    }

    static Orbitdock atMinute9990() {
        Orbitdock x = twoRooms();
        passTo(x, 0, 9990);
        return x;
    }

    static void passTo(Orbitdock x, int from, int to) {
        for (int minute = from; minute < to; minute = Math.min(minute + 90, to)) {
            x.pass(Math.min(90, to - minute));
        }
    }

    static void turnOn(Orbitdock x, String kinds) {
        for (int i = 0; i < kinds.length(); i++) {
            x.setDevice(x.addDevice(kinds.charAt(i), 0), true);
        }
    }
}
