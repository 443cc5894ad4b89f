import java.util.function.Supplier;

/** Promises 13, 14 and 22, and what the terms say of ships. */
final class ShipTest {
    private static final Class<IllegalArgumentException> ARGUMENT = IllegalArgumentException.class;
    private static final Class<IndexOutOfBoundsException> INDEX = IndexOutOfBoundsException.class;
    private static final Class<IllegalStateException> STATE = IllegalStateException.class;
    private static final Class<UnsupportedOperationException> UNSUPPORTED = UnsupportedOperationException.class;

    // Ship 0 is gone, ship 1 waits with a little fuel.
    private static Orbitdock twoShips() {
        Orbitdock x = new Orbitdock();
        x.approach(1, 20);
        x.approach(300, 30);
        x.burn(0, 1);
        x.pass(1);
        x.burn(1, 9);
        x.burn(1, -8);
        return x;
    }

    static void promise13NumbersShipsFromZero() {
        Orbitdock x = new Orbitdock();
        Expect.same("ship", 0, x.approach(1, 0));
        Expect.same("ship", 1, x.approach(500, 99));
        Expect.same("ship", 2, x.approach(7, 7));
        Expect.same("ship", 3, x.approach(7, 7));
        Expect.same("distance", 1, x.distance(0));
        Expect.same("distance", 500, x.distance(1));
        Expect.same("fuel", 20, x.burn(2, 0));
        x.pass(5);
        Expect.same("distance at speed 0", 7, x.distance(3));
        Expect.same("water", 50, x.water());
    }

    static void promise13Refuses() {
        for (int distance : new int[] {0, 501, -1, Integer.MIN_VALUE, Integer.MAX_VALUE}) {
            Expect.refused("approach", ARGUMENT, ShipTest::twoShips, x -> x.approach(distance, 5));
            Expect.refused("approach when full", ARGUMENT, ShipTest::fourShips, x -> x.approach(distance, 5));
        }
        for (int water : new int[] {-1, 100, Integer.MIN_VALUE, Integer.MAX_VALUE}) {
            Expect.refused("approach", ARGUMENT, ShipTest::twoShips, x -> x.approach(5, water));
        }
        Expect.refused("approach of a fifth", STATE, ShipTest::fourShips, x -> x.approach(5, 5));
    }

    private static Orbitdock fourShips() {
        Orbitdock x = twoShips();
        x.approach(50, 1);
        x.approach(50, 1);
        return x;
    }

    static void promise14ChangesSpeedAndFuel() {
        Orbitdock x = new Orbitdock();
        x.approach(100, 0);
        Expect.same("fuel", 11, x.burn(0, 9));
        x.pass(1);
        Expect.same("distance", 91, x.distance(0));
        Expect.same("fuel", 7, x.burn(0, -4));
        x.pass(2);
        Expect.same("distance", 81, x.distance(0));
        Expect.same("fuel", 7, x.burn(0, 0));
        Expect.same("fuel", 0, x.burn(0, -7));
        x.pass(3);
        Expect.same("distance at speed -2", 87, x.distance(0));
        Expect.same("fuel", 0, x.burn(0, 0));
        Expect.same("no fuel", UNSUPPORTED, Expect.thrownBy(() -> x.burn(0, 1)));
    }

    static void promise14Refuses() {
        for (int no : new int[] {-1, 2, 4, Integer.MIN_VALUE, Integer.MAX_VALUE}) {
            Expect.refused("burn", INDEX, ShipTest::twoShips, x -> x.burn(no, 1));
            Expect.refused("burn", INDEX, ShipTest::twoShips, x -> x.burn(no, 10));
        }
        for (int change : new int[] {-10, 10, Integer.MIN_VALUE, Integer.MAX_VALUE}) {
            Expect.refused("burn", ARGUMENT, ShipTest::twoShips, x -> x.burn(1, change));
            Expect.refused("burn of a ship that is gone", ARGUMENT, ShipTest::twoShips, x -> x.burn(0, change));
        }
        Expect.refused("burn of a ship that is gone", STATE, ShipTest::twoShips, x -> x.burn(0, 0));
        Expect.refused("burn of a ship that is gone", STATE, ShipTest::emptyShipGone, x -> x.burn(0, 9));
        Expect.refused("burn", UNSUPPORTED, ShipTest::twoShips, x -> x.burn(1, 4));
        Expect.refused("burn", UNSUPPORTED, ShipTest::twoShips, x -> x.burn(1, -4));
    }

    private static Orbitdock emptyShipGone() {
        Orbitdock x = new Orbitdock();
        x.approach(2, 20);
        x.burn(0, 9);
        x.burn(0, -9);
        x.burn(0, 2);
        x.pass(1);
        return x;
    }

    static void promise14AllFuelMayGo() {
        Orbitdock x = twoShips();
        Expect.same("fuel", 0, x.burn(1, -3));
    }

    static void promise22TellsDistance() {
        Orbitdock x = twoShips();
        Expect.same("of a ship that is gone", -1, x.distance(0));
        x.pass(9);
        Expect.same("behind nine minutes", 291, x.distance(1));
        for (int no : new int[] {-1, 2, 4, Integer.MIN_VALUE, Integer.MAX_VALUE}) {
            Expect.refused("distance", INDEX, ShipTest::twoShips, y -> y.distance(no));
        }
    }

    static void docksAtSpeedTwo() {
        Orbitdock x = new Orbitdock();
        x.approach(5, 33);
        x.burn(0, 2);
        x.pass(2);
        Expect.same("distance", 1, x.distance(0));
        Expect.same("water", 50, x.water());
        x.pass(1);
        Expect.same("distance", -1, x.distance(0));
        Expect.same("water", 83, x.water());
        Expect.same("events", "d", Expect.eventsOf(x));
        x.pass(9);
        Expect.same("water comes once", 83, x.water());
        Expect.same("events", 1, x.events());
    }

    static void docksAtDistanceZero() {
        Orbitdock x = new Orbitdock();
        x.approach(2, 1);
        x.burn(0, 1);
        x.pass(1);
        Expect.same("distance", 1, x.distance(0));
        x.pass(1);
        Expect.same("distance", -1, x.distance(0));
    }

    static void turnsAwayAtSpeedThree() {
        Orbitdock x = new Orbitdock();
        x.approach(3, 33);
        x.burn(0, 3);
        x.pass(1);
        Expect.same("distance", 100, x.distance(0));
        Expect.same("water", 50, x.water());
        Expect.same("events", "t", Expect.eventsOf(x));
        x.pass(9);
        Expect.same("distance at speed 0", 100, x.distance(0));
        Expect.same("fuel", 16, x.burn(0, 1));
        x.pass(1);
        Expect.same("distance at speed 1", 99, x.distance(0));
    }

    static void shipsMoveByRisingNumbers() {
        Orbitdock x = new Orbitdock();
        x.approach(3, 1);
        x.approach(1, 2);
        x.burn(1, 1);
        x.burn(0, 3);
        x.pass(1);
        Expect.same("events", "td", Expect.eventsOf(x));
        Expect.same("water", 52, x.water());
    }

    static void waterOfADockedShipServesTheSameMinute() {
        Orbitdock x = new Orbitdock();
        x.addRoom(0);
        x.addDevice('e', 0);
        x.setDevice(0, true);
        x.setPanels(40);
        x.pass(17);
        Expect.same("water", 0, x.water());
        x.approach(1, 5);
        x.burn(0, 1);
        x.pass(1);
        Expect.same("water", 2, x.water());
        Expect.same("oxygen", 53, x.oxygen(0));
        x.pass(1);
        Expect.same("water", 0, x.water());
        Expect.same("oxygen", 55, x.oxygen(0));
    }

    // A ship that comes near in one minute, and what becomes of it: its distance, and the event.
    private static String fate(int distance, int... burns) {
        Orbitdock x = new Orbitdock();
        x.approach(distance, 5);
        for (int change : burns) {
            x.burn(0, change);
        }
        x.pass(1);
        return x.distance(0) + " " + Expect.eventsOf(x) + " " + x.water();
    }

    static void shipsDockAtDistanceZeroOrLessWithSpeedTwoOrLess() {
        Expect.same("speed 2 to distance 1", "1  50", fate(3, 2));
        Expect.same("speed 2 to distance 0", "-1 d 55", fate(2, 2));
        Expect.same("speed 2 to distance -1", "-1 d 55", fate(1, 2));
        Expect.same("speed 1 to distance 1", "1  50", fate(2, 1));
        Expect.same("speed 1 to distance 0", "-1 d 55", fate(1, 1));
        Expect.same("speed 0 at distance 1", "1  50", fate(1));
        Expect.same("speed -1 from distance 1", "2  50", fate(1, -1));
    }

    static void shipsTurnAwayAtDistanceZeroOrLessAboveSpeedTwo() {
        Expect.same("speed 3 to distance 1", "1  50", fate(4, 3));
        Expect.same("speed 3 to distance 0", "100 t 50", fate(3, 3));
        Expect.same("speed 3 to distance -1", "100 t 50", fate(2, 3));
        Expect.same("speed 20 to distance 1", "1  50", fate(21, 9, 9, 2));
        Expect.same("speed 20 to distance 0", "100 t 50", fate(20, 9, 9, 2));
        Expect.same("speed 20 to distance -19", "100 t 50", fate(1, 9, 9, 2));
    }

    static void shipsThatTurnedAwayKeepFuelAndWaterAndMayComeAgain() {
        Orbitdock x = new Orbitdock();
        x.approach(5, 33);
        x.burn(0, 5);
        x.pass(1);
        Expect.same("fuel", 10, x.burn(0, 5));
        x.pass(19);
        Expect.same("distance", 5, x.distance(0));
        x.pass(1);
        Expect.same("distance", 100, x.distance(0));
        Expect.same("events", "tt", Expect.eventsOf(x));
        Expect.same("fuel", 8, x.burn(0, 2));
        x.pass(49);
        Expect.same("distance", 2, x.distance(0));
        Expect.same("water", 50, x.water());
        x.pass(1);
        Expect.same("distance", -1, x.distance(0));
        Expect.same("water", 83, x.water());
        Expect.same("events", "ttd", Expect.eventsOf(x));
    }

    static void promise13TheBoundsOfWaterCome() {
        Orbitdock x = new Orbitdock();
        x.approach(1, 0);
        x.approach(1, 99);
        x.burn(0, 1);
        x.pass(1);
        Expect.same("no water", 50, x.water());
        x.burn(1, 1);
        x.pass(1);
        Expect.same("99 units", 149, x.water());
        Expect.same("events", "dd", Expect.eventsOf(x));
    }

    static void promise13TheGreatestDistanceIsPassed() {
        Orbitdock x = new Orbitdock();
        x.approach(500, 1);
        x.burn(0, 9);
        x.pass(55);
        Expect.same("distance", 5, x.distance(0));
        x.pass(1);
        Expect.same("distance", 100, x.distance(0));
    }

    static void promise13RefusesWaterAheadOfAFifthShip() {
        Expect.refused("approach when full", ARGUMENT, ShipTest::fourShips, x -> x.approach(5, 100));
        Expect.refused("approach when full", ARGUMENT, ShipTest::fourShips, x -> x.approach(5, -1));
        Expect.refused("approach when full", ARGUMENT, ShipTest::fourShips, x -> x.approach(0, 100));
        Expect.refused("approach when full", STATE, ShipTest::fourShips, x -> x.approach(1, 0));
        Expect.refused("approach when full", STATE, ShipTest::fourShips, x -> x.approach(500, 99));
    }

    static void promise14TheBoundsOfAChange() {
        Orbitdock x = new Orbitdock();
        x.approach(500, 0);
        x.approach(500, 0);
        Expect.same("fuel behind 9", 11, x.burn(0, 9));
        Expect.same("fuel behind -9", 11, x.burn(1, -9));
        x.pass(1);
        Expect.same("distance", 491, x.distance(0));
        Expect.same("distance, not bound to 500", 509, x.distance(1));
        Expect.same("fuel behind 0", 11, x.burn(0, 0));
    }

    private static Orbitdock withFuel(int fuel) {
        Orbitdock x = new Orbitdock();
        x.approach(500, 0);
        for (int left = 20; left > fuel; left -= Math.min(9, left - fuel)) {
            x.burn(0, -Math.min(9, left - fuel));
        }
        return x;
    }

    static void promise14FuelMayGoToZeroAndNoFurther() {
        for (int fuel = 0; fuel < 9; fuel++) {
            int more = fuel + 1;
            Expect.same("all fuel", 0, withFuel(fuel).burn(0, fuel));
            Expect.same("all fuel back", 0, withFuel(fuel).burn(0, -fuel));
            Supplier<Orbitdock> scene = () -> withFuel(more - 1);
            Expect.refused("burn of 1 too much", UNSUPPORTED, scene, x -> x.burn(0, more));
            Expect.refused("burn of 1 too much", UNSUPPORTED, scene, x -> x.burn(0, -more));
        }
        Expect.same("fuel of 9", 0, withFuel(9).burn(0, 9));
        Expect.same("fuel of 10", 1, withFuel(10).burn(0, -9));
    }

    static void promise14RefusesARangeAheadOfNoFuel() {
        Expect.refused("burn", ARGUMENT, () -> withFuel(0), x -> x.burn(0, 10));
        Expect.refused("burn", ARGUMENT, () -> withFuel(0), x -> x.burn(0, -10));
        Expect.refused("burn", INDEX, () -> withFuel(0), x -> x.burn(1, 9));
        Expect.refused("burn without ships", INDEX, Orbitdock::new, x -> x.burn(0, 0));
    }

    static void promise22WithoutShipsThereIsNoDistance() {
        Expect.refused("distance", INDEX, Orbitdock::new, x -> x.distance(0));
        Expect.same("the least distance", 1, withDistance(1).distance(0));
        Expect.same("the greatest distance", 500, withDistance(500).distance(0));
    }

    private static Orbitdock withDistance(int distance) {
        Orbitdock x = new Orbitdock();
        x.approach(distance, 0);
        return x;
    }
}
