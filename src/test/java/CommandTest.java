import java.util.function.Supplier;

/** Promise 12, and what the terms say of commands: arrival, contact, life and order. */
final class CommandTest {
    private static final Class<IllegalArgumentException> ARGUMENT = IllegalArgumentException.class;
    private static final Class<IndexOutOfBoundsException> INDEX = IndexOutOfBoundsException.class;
    private static final Class<IllegalStateException> STATE = IllegalStateException.class;
    private static final Class<UnsupportedOperationException> UNSUPPORTED = UnsupportedOperationException.class;

    // Two lamps and one hatch, in the minute that is told.
    private static Orbitdock at(int minute) {
        Orbitdock x = StationTest.twoRooms();
        x.addHatch(0, 1);
        x.addDevice('l', 0);
        x.addDevice('l', 1);
        passTo(x, 0, minute);
        return x;
    }

    private static void passTo(Orbitdock x, int from, int to) {
        for (int minute = from; minute < to; minute = Math.min(minute + 90, to)) {
            x.pass(Math.min(90, to - minute));
        }
    }

    private static Orbitdock twelveWait() {
        Orbitdock x = at(0);
        for (int i = 0; i < 12; i++) {
            x.send("nfoh".charAt(i % 4), 0, 20 + i, i);
        }
        return x;
    }

    static void promise12ReturnsHowManyWait() {
        Orbitdock x = at(0);
        for (int i = 1; i <= 12; i++) {
            Expect.same("waiting", i, x.send("nfoh".charAt(i % 4), 0, i < 7 ? 12 : 99, 99));
        }
        x.pass(13);
        Expect.same("events", "cccccc", Expect.eventsOf(x));
        Expect.same("waiting", 7, x.send('n', 0, 1, 0));
    }

    static void promise12KindsActOnTheirTargets() {
        Orbitdock x = at(10);
        x.send('n', 1, 1, 0);
        x.send('h', 0, 1, 0);
        x.pass(2);
        Expect.same("first lamp", false, x.isOn(0));
        Expect.same("second lamp", true, x.isOn(1));
        Expect.same("hatch was open", false, x.setHatch(0, false));
        x.send('f', 1, 1, 0);
        x.send('o', 0, 1, 0);
        x.pass(2);
        Expect.same("second lamp", false, x.isOn(1));
        Expect.same("hatch was open", true, x.setHatch(0, true));
        Expect.same("events", "cccc", Expect.eventsOf(x));
    }

    static void promise12ArrivesBehindTheMinutesTold() {
        Orbitdock x = at(12);
        x.send('n', 0, 5, 0);
        x.pass(5);
        Expect.same("ahead of the arrival's minute", false, x.isOn(0));
        x.pass(1);
        Expect.same("behind it", true, x.isOn(0));
    }

    static void promise12WaitsForContactFromMinute10() {
        Orbitdock x = at(0);
        x.send('n', 0, 1, 9);
        x.pass(10);
        Expect.same("behind minute 9", false, x.isOn(0));
        x.pass(1);
        Expect.same("behind minute 10", true, x.isOn(0));
    }

    static void promise12ContactEndsWithMinute49() {
        Orbitdock inTime = at(48);
        inTime.send('n', 0, 1, 0);
        inTime.pass(2);
        Expect.same("events of minute 49", "c", Expect.eventsOf(inTime));
        Orbitdock late = at(48);
        late.send('n', 0, 2, 50);
        late.pass(52);
        Expect.same("events up to minute 99", "", Expect.eventsOf(late));
        late.pass(1);
        Expect.same("events of minute 100", "c", Expect.eventsOf(late));
        Expect.same("lamp", true, late.isOn(0));
    }

    static void promise12ExpiresBehindItsLife() {
        Orbitdock x = at(50);
        x.send('n', 0, 3, 7);
        x.pass(10);
        Expect.same("behind minute 59", 2, x.send('n', 1, 99, 99));
        x.pass(1);
        Expect.same("behind minute 60, its last", "", Expect.eventsOf(x));
        x.pass(1);
        Expect.same("behind minute 61", "x", Expect.eventsOf(x));
        Expect.same("waiting", 2, x.send('n', 1, 99, 99));
        Expect.same("lamp", false, x.isOn(0));
    }

    static void promise12ExpiresInContactToo() {
        Orbitdock x = at(8);
        x.send('n', 0, 1, 0);
        x.pass(3);
        Expect.same("events", "x", Expect.eventsOf(x));
        Expect.same("lamp", false, x.isOn(0));
    }

    static void promise12ActsInTheLastMinuteOfItsLife() {
        Orbitdock x = at(0);
        x.send('n', 0, 1, 9);
        x.send('n', 1, 1, 8);
        x.pass(11);
        Expect.same("events", "cx", Expect.eventsOf(x));
        Expect.same("with life 9", true, x.isOn(0));
        Expect.same("with life 8", false, x.isOn(1));
    }

    static void promise12ActsInTheOrderOfSending() {
        Orbitdock x = at(10);
        x.send('n', 0, 3, 0);
        x.send('f', 0, 2, 0);
        x.send('f', 1, 3, 0);
        x.send('n', 1, 3, 0);
        x.pass(4);
        Expect.same("turned off, then on", true, x.isOn(0));
        Expect.same("turned off, then on", true, x.isOn(1));
        Orbitdock y = at(10);
        y.send('n', 0, 2, 0);
        y.send('f', 0, 2, 0);
        y.pass(3);
        Expect.same("turned on, then off", false, y.isOn(0));
    }

    static void promise12OrderStaysWhenOthersGo() {
        Orbitdock x = at(0);
        x.send('n', 0, 1, 0);
        x.send('n', 0, 12, 0);
        x.send('n', 1, 1, 0);
        x.send('f', 0, 12, 0);
        x.send('n', 1, 12, 0);
        x.pass(5);
        Expect.same("events", "xx", Expect.eventsOf(x));
        x.pass(8);
        Expect.same("events", "xxccc", Expect.eventsOf(x));
        Expect.same("on, then off", false, x.isOn(0));
        Expect.same("on", true, x.isOn(1));
    }

    static void promise12ACommandOfNoEffectActsToo() {
        Orbitdock x = at(10);
        x.send('f', 0, 1, 0);
        x.send('o', 0, 1, 0);
        x.pass(2);
        Expect.same("events", "cc", Expect.eventsOf(x));
    }

    static void promise12ActsAheadOfTheDevicesOfItsMinute() {
        Orbitdock x = at(10);
        x.setPanels(0);
        x.send('n', 0, 1, 0);
        x.pass(1);
        Expect.same("battery", 200, x.battery());
        x.pass(1);
        Expect.same("battery", 198, x.battery());
    }

    static void promise12TargetsStandByKind() {
        Orbitdock x = at(0);
        Expect.same("second device", 1, x.send('f', 1, 1, 0));
        Expect.same("a second hatch", INDEX, Expect.thrownBy(() -> x.send('h', 1, 1, 0)));
        x.addHatch(0, 1);
        x.addHatch(0, 1);
        Expect.same("third hatch", 2, x.send('o', 2, 99, 99));
        Expect.same("a third device", INDEX, Expect.thrownBy(() -> x.send('n', 2, 1, 0)));
    }

    static void promise12RefusesArguments() {
        Supplier<Orbitdock> scene = CommandTest::twelveWait;
        for (char kind : new char[] {'x', 'N', 'c', 's', (char) 0, (char) 65535}) {
            Expect.refused("send of no kind", ARGUMENT, scene, x -> x.send(kind, 0, 1, 0));
            Expect.refused("send of no kind", ARGUMENT, scene, x -> x.send(kind, 99, 1, 0));
        }
        for (int minutes : new int[] {0, 100, -1, Integer.MIN_VALUE, Integer.MAX_VALUE}) {
            Expect.refused("send", ARGUMENT, scene, x -> x.send('n', 0, minutes, 0));
            Expect.refused("send", ARGUMENT, scene, x -> x.send('o', 9, minutes, 0));
        }
        for (int life : new int[] {-1, 100, Integer.MIN_VALUE, Integer.MAX_VALUE}) {
            Expect.refused("send", ARGUMENT, scene, x -> x.send('f', 0, 1, life));
            Expect.refused("send", ARGUMENT, scene, x -> x.send('h', 9, 1, life));
        }
    }

    static void promise12RefusesTargets() {
        for (int no : new int[] {-1, 2, 8, Integer.MIN_VALUE, Integer.MAX_VALUE}) {
            for (char kind : new char[] {'n', 'f', 'o', 'h'}) {
                Expect.refused("send", INDEX, CommandTest::twelveWait, x -> x.send(kind, no, 1, 0));
                Expect.refused("send", INDEX, StationTest::safeStation, x -> x.send(kind, no, 1, 0));
            }
        }
    }

    static void promise12RefusesTheThirteenthAndTheSafeMode() {
        Expect.refused("send", STATE, CommandTest::twelveWait, x -> x.send('n', 0, 99, 99));
        for (char kind : new char[] {'n', 'f', 'o', 'h'}) {
            Expect.refused("send", UNSUPPORTED, StationTest::safeStation, x -> x.send(kind, 0, 1, 0));
        }
    }

    static void promise12AcceptsTheBounds() {
        Orbitdock x = at(0);
        Expect.same("waiting", 1, x.send('n', 0, 1, 0));
        Expect.same("waiting", 2, x.send('f', 1, 99, 99));
        passTo(x, 0, 101);
        Expect.same("events", "xc", Expect.eventsOf(x));
    }

    static void safeModeDropsWhatWaits() {
        Orbitdock x = new Orbitdock();
        x.addRoom(9);
        x.addDevice('s', 0);
        x.send('n', 0, 15, 0);
        x.send('n', 0, 12, 99);
        x.board(0);
        x.pass(1);
        Expect.same("events", "s", Expect.eventsOf(x));
        x.endSafe();
        Expect.same("waiting", 1, x.send('f', 0, 99, 99));
        x.pass(1);
        Expect.same("events", "ss", Expect.eventsOf(x));
        x.pass(20);
        Expect.same("on", false, x.isOn(0));
        Expect.same("events", "ssk", Expect.eventsOf(x));
        x.endSafe();
        Expect.same("waiting", 1, x.send('f', 0, 99, 99));
    }

    static void aCommandActsInTheMinuteInWhichTheSafeModeBegins() {
        Orbitdock x = new Orbitdock();
        x.addRoom(12);
        x.addDevice('l', 0);
        x.addDevice('s', 0);
        x.pass(10);
        x.board(0);
        x.send('n', 0, 2, 0);
        x.send('n', 1, 2, 0);
        x.send('f', 1, 3, 0);
        x.pass(3);
        Expect.same("oxygen", 9, x.oxygen(0));
        Expect.same("events", "ccs", Expect.eventsOf(x));
        Expect.same("lamp", false, x.isOn(0));
        Expect.same("scrubber", true, x.isOn(1));
        x.pass(5);
        Expect.same("scrubber, its command gone", true, x.isOn(1));
    }
}
