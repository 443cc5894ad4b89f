import java.util.function.Supplier;

/** Promise 12, and what the terms say of commands: arrival, contact, life and order. */
final class CommandTest {
    private static final Class<IllegalArgumentException> ARGUMENT = IllegalArgumentException.class;
    private static final Class<IndexOutOfBoundsException> INDEX = IndexOutOfBoundsException.class;
    private static final Class<IllegalStateException> STATE = IllegalStateException.class;
    private static final Class<UnsupportedOperationException> UNSUPPORTED = UnsupportedOperationException.class;

    // Two lamps and one hatch, in the minute that is told.
    private static Orbitdock at(int minute) {
        Orbitdock x = Scene.twoRooms();
        x.addHatch(0, 1);
        x.addDevice('l', 0);
        x.addDevice('l', 1);
        Scene.passTo(x, 0, minute);
        return x;
    }

    private static Orbitdock twelveWait() {
        Orbitdock x = at(0);
        for (int i = 0; i < 12; i++) {
            x.send("nfoh".charAt(i % 4), 0, 20 + i, i);
        }
        return x;
    }

    static void promise12ReturnsHowManyWait() {
        Orbitdock x = at(0);
        for (int i = 1; i <= 12; i++) {
            Expect.same("waiting", i, x.send("nfoh".charAt(i % 4), 0, i < 7 ? 12 : 99, 99));
        }
        x.pass(13);
        Expect.same("events", "cccccc", Expect.eventsOf(x));
        Expect.same("waiting", 7, x.send('n', 0, 1, 0));
    }

    static void promise12KindsActOnTheirTargets() {
        Orbitdock x = at(10);
        x.send('n', 1, 1, 0);
        x.send('h', 0, 1, 0);
        x.pass(2);
        Expect.same("first lamp", false, x.isOn(0));
        Expect.same("second lamp", true, x.isOn(1));
        Expect.same("hatch was open", false, x.setHatch(0, false));
        x.send('f', 1, 1, 0);
        x.send('o', 0, 1, 0);
        x.pass(2);
        Expect.same("second lamp", false, x.isOn(1));
        Expect.same("hatch was open", true, x.setHatch(0, true));
        Expect.same("events", "cccc", Expect.eventsOf(x));
    }

    static void promise12ArrivesBehindTheMinutesTold() {
        Orbitdock x = at(12);
        x.send('n', 0, 5, 0);
        x.pass(5);
        Expect.same("ahead of the arrival's minute", false, x.isOn(0));
        x.pass(1);
        Expect.same("behind it", true, x.isOn(0));
    }

    static void promise12WaitsForContactFromMinute10() {
        Orbitdock x = at(0);
        x.send('n', 0, 1, 9);
        x.pass(10);
        Expect.same("behind minute 9", false, x.isOn(0));
        x.pass(1);
        Expect.same("behind minute 10", true, x.isOn(0));
    }

    static void promise12ContactEndsWithMinute49() {
        Orbitdock inTime = at(48);
        inTime.send('n', 0, 1, 0);
        inTime.pass(2);
        Expect.same("events of minute 49", "c", Expect.eventsOf(inTime));
        Orbitdock late = at(48);
        late.send('n', 0, 2, 50);
        late.pass(52);
        Expect.same("events up to minute 99", "", Expect.eventsOf(late));
        late.pass(1);
        Expect.same("events of minute 100", "c", Expect.eventsOf(late));
        Expect.same("lamp", true, late.isOn(0));
    }

    static void promise12ExpiresBehindItsLife() {
        Orbitdock x = at(50);
        x.send('n', 0, 3, 7);
        x.pass(10);
        Expect.same("behind minute 59", 2, x.send('n', 1, 99, 99));
        x.pass(1);
        Expect.same("behind minute 60, its last", "", Expect.eventsOf(x));
        x.pass(1);
        Expect.same("behind minute 61", "x", Expect.eventsOf(x));
        Expect.same("waiting", 2, x.send('n', 1, 99, 99));
        Expect.same("lamp", false, x.isOn(0));
    }

    static void promise12ExpiresInContactToo() {
        Orbitdock x = at(8);
        x.send('n', 0, 1, 0);
        x.pass(3);
        Expect.same("events", "x", Expect.eventsOf(x));
        Expect.same("lamp", false, x.isOn(0));
    }

    static void promise12ActsInTheLastMinuteOfItsLife() {
        Orbitdock x = at(0);
        x.send('n', 0, 1, 9);
        x.send('n', 1, 1, 8);
        x.pass(11);
        Expect.same("events", "cx", Expect.eventsOf(x));
        Expect.same("with life 9", true, x.isOn(0));
        Expect.same("with life 8", false, x.isOn(1));
    }

    static void promise12ActsInTheOrderOfSending() {
        Orbitdock x = at(10);
        x.send('n', 0, 3, 0);
        x.send('f', 0, 2, 0);
        x.send('f', 1, 3, 0);
        x.send('n', 1, 3, 0);
        x.pass(4);
        Expect.same("turned off, then on", true, x.isOn(0));
        Expect.same("turned off, then on", true, x.isOn(1));
        Orbitdock y = at(10);
        y.send('n', 0, 2, 0);
        y.send('f', 0, 2, 0);
        y.pass(3);
        Expect.same("turned on, then off", false, y.isOn(0));
    }

    static void promise12OrderStaysWhenOthersGo() {
        Orbitdock x = at(0);
        x.send('n', 0, 1, 0);
        x.send('n', 0, 12, 0);
        x.send('n', 1, 1, 0);
        x.send('f', 0, 12, 0);
        x.send('n', 1, 12, 0);
        x.pass(5);
        Expect.same("events", "xx", Expect.eventsOf(x));
        x.pass(8);
        Expect.same("events", "xxccc", Expect.eventsOf(x));
        Expect.same("on, then off", false, x.isOn(0));
        Expect.same("on", true, x.isOn(1));
    }

    static void promise12ACommandOfNoEffectActsToo() {
        Orbitdock x = at(10);
        x.send('f', 0, 1, 0);
        x.send('o', 0, 1, 0);
        x.pass(2);
        Expect.same("events", "cc", Expect.eventsOf(x));
    }

    static void promise12ActsAheadOfTheDevicesOfItsMinute() {
        Orbitdock x = at(10);
        x.setPanels(0);
        x.send('n', 0, 1, 0);
        x.pass(1);
        Expect.same("battery", 200, x.battery());
        x.pass(1);
        Expect.same("battery", 198, x.battery());
    }

    static void promise12TargetsStandByKind() {
        Orbitdock x = at(0);
        Expect.same("second device", 1, x.send('f', 1, 1, 0));
        Expect.same("a second hatch", INDEX, Expect.thrownBy(() -> x.send('h', 1, 1, 0)));
        x.addHatch(0, 1);
        x.addHatch(0, 1);
        Expect.same("third hatch", 2, x.send('o', 2, 99, 99));
        Expect.same("a third device", INDEX, Expect.thrownBy(() -> x.send('n', 2, 1, 0)));
    }

    static void promise12RefusesArguments() {
        Supplier<Orbitdock> scene = CommandTest::twelveWait;
        for (char kind : new char[] {'x', 'N', 'c', 's', (char) 0, (char) 65535}) {
            Expect.refused("send of no kind", ARGUMENT, scene, x -> x.send(kind, 0, 1, 0));
            Expect.refused("send of no kind", ARGUMENT, scene, x -> x.send(kind, 99, 1, 0));
        }
        for (int minutes : new int[] {0, 100, -1, Integer.MIN_VALUE, Integer.MAX_VALUE}) {
            Expect.refused("send", ARGUMENT, scene, x -> x.send('n', 0, minutes, 0));
            Expect.refused("send", ARGUMENT, scene, x -> x.send('o', 9, minutes, 0));
        }
        for (int life : new int[] {-1, 100, Integer.MIN_VALUE, Integer.MAX_VALUE}) {
            Expect.refused("send", ARGUMENT, scene, x -> x.send('f', 0, 1, life));
            Expect.refused("send", ARGUMENT, scene, x -> x.send('h', 9, 1, life));
        }
    }

    static void promise12RefusesTargets() {
        for (int no : new int[] {-1, 2, 8, Integer.MIN_VALUE, Integer.MAX_VALUE}) {
            for (char kind : new char[] {'n', 'f', 'o', 'h'}) {
                Expect.refused("send", INDEX, CommandTest::twelveWait, x -> x.send(kind, no, 1, 0));
                Expect.refused("send", INDEX, Scene::safeStation, x -> x.send(kind, no, 1, 0));
            }
        }
    }

    static void promise12RefusesTheThirteenthAndTheSafeMode() {
        Expect.refused("send", STATE, CommandTest::twelveWait, x -> x.send('n', 0, 99, 99));
        for (char kind : new char[] {'n', 'f', 'o', 'h'}) {
            Expect.refused("send", UNSUPPORTED, Scene::safeStation, x -> x.send(kind, 0, 1, 0));
        }
    }

    static void promise12AcceptsTheBounds() {
        Orbitdock x = at(0);
        Expect.same("waiting", 1, x.send('n', 0, 1, 0));
        Expect.same("waiting", 2, x.send('f', 1, 99, 99));
        Scene.passTo(x, 0, 101);
        Expect.same("events", "xc", Expect.eventsOf(x));
    }

    static void safeModeDropsWhatWaits() {
        Orbitdock x = new Orbitdock();
        x.addRoom(9);
        x.addDevice('s', 0);
        x.send('n', 0, 15, 0);
        x.send('n', 0, 12, 99);
        x.board(0);
        x.pass(1);
        Expect.same("events", "s", Expect.eventsOf(x));
        x.endSafe();
        Expect.same("waiting", 1, x.send('f', 0, 99, 99));
        x.pass(1);
        Expect.same("events", "ss", Expect.eventsOf(x));
        x.pass(20);
        Expect.same("on", false, x.isOn(0));
        Expect.same("events", "ssk", Expect.eventsOf(x));
        x.endSafe();
        Expect.same("waiting", 1, x.send('f', 0, 99, 99));
    }

    static void aCommandActsInTheMinuteInWhichTheSafeModeBegins() {
        Orbitdock x = new Orbitdock();
        x.addRoom(12);
        x.addDevice('l', 0);
        x.addDevice('s', 0);
        x.pass(10);
        x.board(0);
        x.send('n', 0, 2, 0);
        x.send('n', 1, 2, 0);
        x.send('f', 1, 3, 0);
        x.pass(3);
        Expect.same("oxygen", 9, x.oxygen(0));
        Expect.same("events", "ccs", Expect.eventsOf(x));
        Expect.same("lamp", false, x.isOn(0));
        Expect.same("scrubber", true, x.isOn(1));
        x.pass(5);
        Expect.same("scrubber, its command gone", true, x.isOn(1));
    }

    // What a command's own lamp tells of it: whether it acted or expired, and in which minute.
    private static String fate(int sent, int minutes, int life) {
        Orbitdock x = at(sent);
        x.send('n', 0, minutes, life);
        for (int minute = sent; minute < sent + 200; minute++) {
            x.pass(1);
            if (x.events() > 0) {
                return (x.isOn(0) ? "on, " : "off, ") + x.eventAt(0) + " in " + minute;
            }
        }
        return "waits";
    }

    static void contactBeginsWithMinuteTenOfEachOrbit() {
        Expect.same("arrival in 9", "off, x in 10", fate(8, 1, 0));
        Expect.same("arrival in 10", "on, c in 10", fate(9, 1, 0));
        Expect.same("arrival in 99", "off, x in 100", fate(98, 1, 0));
        Expect.same("arrival in 100", "on, c in 100", fate(99, 1, 0));
        Expect.same("arrival in 9909", "off, x in 9910", fate(9908, 1, 0));
    }

    static void contactEndsWithMinuteFortyNineOfEachOrbit() {
        Expect.same("arrival in 49", "on, c in 49", fate(48, 1, 0));
        Expect.same("arrival in 50", "off, x in 51", fate(49, 1, 0));
        Expect.same("arrival in 139", "on, c in 139", fate(138, 1, 0));
        Expect.same("arrival in 140", "off, x in 141", fate(139, 1, 0));
    }

    static void contactOfTheLastWholeOrbit() {
        Orbitdock x = at(9909);
        x.send('n', 0, 1, 0);
        x.send('n', 1, 41, 0);
        x.send('f', 0, 40, 0);
        x.pass(1);
        Expect.same("arrives in 9910", "", Expect.eventsOf(x));
        x.pass(1);
        Expect.same("acted", true, x.isOn(0));
        x.pass(39);
        Expect.same("acted in 9949", false, x.isOn(0));
        x.pass(1);
        Expect.same("arrived in 9950", "cc", Expect.eventsOf(x));
        x.pass(1);
        Expect.same("expired in 9951", "ccx", Expect.eventsOf(x));
        // Minute 9998 is the last one that passes, and minute 9 of its orbit is 9999.
        Expect.same("waiting", 1, x.send('n', 0, 1, 99));
        x.pass(47);
        Expect.same("no contact up to the end", "ccx", Expect.eventsOf(x));
    }

    static void aCommandWaitsOverTheStepToTheNextOrbit() {
        Expect.same("50 minutes from the first without contact", "on, c in 100", fate(40, 10, 50));
        Expect.same("49 minutes", "off, x in 100", fate(40, 10, 49));
        Expect.same("from the last minute of an orbit", "on, c in 100", fate(80, 9, 11));
        Expect.same("a minute less", "off, x in 100", fate(80, 9, 10));
        Expect.same("from the first minute of an orbit", "on, c in 100", fate(80, 10, 10));
        Expect.same("a minute less", "off, x in 100", fate(80, 10, 9));
    }

    static void promise12TheGreatestNumbersHold() {
        Expect.same("arrival behind 99 minutes", "on, c in 111", fate(12, 99, 0));
        Expect.same("the greatest life", "on, c in 100", fate(49, 1, 99));
        Expect.same("both", "on, c in 100", fate(0, 99, 99));
        Expect.same("the least ones in contact", "on, c in 21", fate(20, 1, 0));
    }

    // Each arrival in the first orbit and in the next one's contact, with each life that makes a difference.
    static void commandsActInTimeOrExpireInTheMinuteBehind() {
        for (int life = 0; life <= 52; life++) {
            Orbitdock[] stations = {at(0), at(45), at(90)};
            for (int i = 0; i < 3; i++) {
                compareTwelve(stations[i], 45 * i, life);
            }
        }
    }

    private static void compareTwelve(Orbitdock x, int sent, int life) {
        int[] arrivals = new int[12];
        for (int i = 0; i < 12; i++) {
            int minutes = 1 + (i * 9 + life * 5) % 99;
            arrivals[i] = sent + minutes;
            x.send('n', 0, minutes, life);
        }
        int seen = x.events();
        for (int minute = sent; minute < sent + 160; minute++) {
            StringBuilder due = new StringBuilder();
            for (int arrival : arrivals) {
                due.append(eventIn(minute, arrival, life));
            }
            x.pass(1);
            StringBuilder got = new StringBuilder();
            for (int events = x.events(); seen < events; seen++) {
                got.append(x.eventAt(seen));
            }
            Expect.same("events of minute " + minute, due.toString(), got.toString());
        }
        Expect.same("all are gone", 12, seen);
    }

    private static String eventIn(int minute, int arrival, int life) {
        int contact = arrival;
        while (contact % 90 < 10 || contact % 90 > 49) {
            contact++;
        }
        if (contact <= arrival + life) {
            return minute == contact ? "c" : "";
        }
        return minute == arrival + life + 1 ? "x" : "";
    }

    static void commandsThatExpireAndActInOneMinuteStandInTheirOrder() {
        Orbitdock x = at(50);
        x.send('n', 0, 50, 0);
        x.send('n', 1, 40, 9);
        x.send('f', 0, 49, 1);
        x.send('f', 1, 49, 0);
        x.pass(51);
        Expect.same("events of minute 100", "cxcx", Expect.eventsOf(x));
        Expect.same("on, then off", false, x.isOn(0));
        Expect.same("both expired", false, x.isOn(1));
    }

    static void promise12RefusesArgumentsAheadOfTheSafeMode() {
        Supplier<Orbitdock> scene = Scene::safeStation;
        Expect.refused("send of no kind", ARGUMENT, scene, x -> x.send('x', 0, 1, 0));
        Expect.refused("send in no minutes", ARGUMENT, scene, x -> x.send('n', 0, 0, 0));
        Expect.refused("send in 100 minutes", ARGUMENT, scene, x -> x.send('n', 0, 100, 0));
        Expect.refused("send with life -1", ARGUMENT, scene, x -> x.send('n', 0, 1, -1));
        Expect.refused("send with life 100", ARGUMENT, scene, x -> x.send('n', 0, 1, 100));
    }

    static void promise12RefusesAllOnAnEmptyStation() {
        for (char kind : new char[] {'n', 'f', 'o', 'h'}) {
            Expect.refused("send", INDEX, Orbitdock::new, x -> x.send(kind, 0, 1, 0));
            Expect.refused("send", ARGUMENT, Orbitdock::new, x -> x.send(kind, 0, 0, 0));
            Expect.refused("send", ARGUMENT, Orbitdock::new, x -> x.send(kind, 0, 1, 100));
        }
    }
}
