/** Promises 9 to 11: who boards, moves and has tasks. */
final class CrewTest {
    private static final int[] NO_INDEX = {-1, 3, 6, 8, Integer.MIN_VALUE, Integer.MAX_VALUE};
    private static final Class<IllegalArgumentException> ARGUMENT = IllegalArgumentException.class;
    private static final Class<IndexOutOfBoundsException> INDEX = IndexOutOfBoundsException.class;
    private static final Class<IllegalStateException> STATE = IllegalStateException.class;
    private static final Class<UnsupportedOperationException> UNSUPPORTED = UnsupportedOperationException.class;

    // Person 0 dies in the empty room 0; person 1 lives in room 1, person 2 in room 2; the safe mode is over.
    private static Orbitdock oneDied() {
        Orbitdock x = new Orbitdock();
        x.addRoom(0);
        x.addRoom(150);
        x.addRoom(150);
        x.addHatch(0, 1);
        x.addHatch(1, 2);
        x.setHatch(0, false);
        x.board(0);
        x.board(1);
        x.board(2);
        x.pass(3);
        x.setHatch(0, true);
        x.endSafe();
        return x;
    }

    static void promise9NumbersPeopleFromZero() {
        Orbitdock x = Scene.twoRooms();
        for (int i = 0; i < 6; i++) {
            Expect.same("person", i, x.board(i % 2));
            Expect.same("room", i % 2, x.whereIs(i));
        }
        for (int i = 0; i < 6; i++) {
            Expect.same("task at first", 'r', x.setTask(i, 's'));
        }
    }

    static void promise9Refuses() {
        for (int no : new int[] {-1, 2, 6, Integer.MIN_VALUE, Integer.MAX_VALUE}) {
            Expect.refused("board", INDEX, Scene::twoRooms, x -> x.board(no));
            Expect.refused("board when full", INDEX, CrewTest::sixPeople, x -> x.board(no));
        }
        Expect.refused("board", STATE, CrewTest::sixPeople, x -> x.board(1));
    }

    private static Orbitdock sixPeople() {
        Orbitdock x = Scene.twoRooms();
        for (int i = 0; i < 6; i++) {
            x.board(i % 2);
        }
        return x;
    }

    static void promise9WhoDiedStillCounts() {
        Orbitdock x = oneDied();
        Expect.same("next person", 3, x.board(1));
        x.board(1);
        x.board(1);
        Expect.same("a seventh", STATE, Expect.thrownBy(() -> x.board(1)));
    }

    static void promise10MovesThroughOpenHatches() {
        Orbitdock x = oneDied();
        Expect.same("before", 1, x.move(1, 0));
        Expect.same("now", 0, x.whereIs(1));
        Expect.same("back through the same hatch", 0, x.move(1, 1));
        Expect.same("on", 1, x.move(1, 2));
        Expect.same("now", 2, x.whereIs(1));
        Expect.same("the other one", 2, x.whereIs(2));
    }

    static void promise10AnyOpenHatchWillDo() {
        Orbitdock x = Scene.twoRooms();
        x.board(0);
        x.addHatch(0, 1);
        x.addHatch(1, 0);
        x.setHatch(0, false);
        Expect.same("through the second", 0, x.move(0, 1));
        x.setHatch(1, false);
        Expect.same("through none", UNSUPPORTED, Expect.thrownBy(() -> x.move(0, 0)));
        x.setHatch(0, true);
        Expect.same("through the first", 1, x.move(0, 0));
    }

    static void promise10Refuses() {
        for (int no : NO_INDEX) {
            Expect.refused("move of nobody", INDEX, CrewTest::oneDied, x -> x.move(no, 1));
            Expect.refused("move to nowhere", INDEX, CrewTest::oneDied, x -> x.move(1, no));
            Expect.refused("move of a dead to nowhere", INDEX, CrewTest::oneDied, x -> x.move(0, no));
        }
        Expect.refused("move of a dead", STATE, CrewTest::oneDied, x -> x.move(0, 1));
        Expect.refused("move of a dead without hatch", STATE, CrewTest::oneDied, x -> x.move(0, 2));
        Expect.refused("move without hatch", UNSUPPORTED, CrewTest::oneDied, x -> x.move(2, 0));
        Expect.refused("move to the same room", UNSUPPORTED, CrewTest::oneDied, x -> x.move(1, 1));
    }

    static void promise10RefusesWithAllHatchesElsewhere() {
        Expect.refused("move past eight hatches", UNSUPPORTED, () -> {
            Orbitdock x = Scene.fullStation();
            x.board(0);
            return x;
        }, x -> x.move(0, 3));
    }

    static void promise10ShutHatchRefuses() {
        Expect.refused("move through a shut hatch", UNSUPPORTED, () -> {
            Orbitdock x = oneDied();
            x.setHatch(1, false);
            return x;
        }, x -> x.move(1, 2));
    }

    static void promise11GivesTasks() {
        Orbitdock x = oneDied();
        Expect.same("at first", 'r', x.setTask(1, 'w'));
        Expect.same("before", 'w', x.setTask(1, 's'));
        Expect.same("before", 's', x.setTask(1, 's'));
        Expect.same("before", 's', x.setTask(1, 'r'));
        Expect.same("of the other one", 'r', x.setTask(2, 'w'));
    }

    static void promise11SafeModeForbidsWorkAlone() {
        Orbitdock x = Scene.safeStation();
        Expect.same("sleep", 'r', x.setTask(0, 's'));
        Expect.same("rest", 's', x.setTask(0, 'r'));
        x.endSafe();
        Expect.same("work behind the safe mode", 'r', x.setTask(0, 'w'));
    }

    static void promise11Refuses() {
        for (int no : NO_INDEX) {
            Expect.refused("setTask of nobody", INDEX, CrewTest::oneDied, x -> x.setTask(no, 'r'));
            Expect.refused("setTask of nobody", INDEX, CrewTest::oneDied, x -> x.setTask(no, 'x'));
        }
        for (char task : new char[] {'x', 'W', 'l', (char) 0, (char) 65535}) {
            Expect.refused("setTask", ARGUMENT, CrewTest::oneDied, x -> x.setTask(1, task));
            Expect.refused("setTask of a dead", ARGUMENT, CrewTest::oneDied, x -> x.setTask(0, task));
        }
        for (char task : new char[] {'r', 'w', 's'}) {
            Expect.refused("setTask of a dead", STATE, CrewTest::oneDied, x -> x.setTask(0, task));
            Expect.refused("setTask of a dead in safe mode", STATE, CrewTest::diedInSafeMode,
                    x -> x.setTask(0, task));
        }
        Expect.refused("setTask to work", UNSUPPORTED, Scene::safeStation, x -> x.setTask(0, 'w'));
    }

    private static Orbitdock diedInSafeMode() {
        Orbitdock x = new Orbitdock();
        x.addRoom(0);
        x.board(0);
        x.pass(3);
        return x;
    }

    static void promises9To11AnEmptyStationHasNobody() {
        Expect.refused("board", INDEX, Orbitdock::new, x -> x.board(0));
        Expect.refused("move", INDEX, Scene::twoRooms, x -> x.move(0, 1));
        Expect.refused("setTask", INDEX, Scene::twoRooms, x -> x.setTask(0, 'r'));
        Expect.refused("setTask", INDEX, Orbitdock::new, x -> x.setTask(0, 'x'));
    }

    static void promise10RefusesTheDeadAheadOfTheSameRoom() {
        Expect.refused("move of a dead to the same room", STATE, CrewTest::oneDied, x -> x.move(0, 0));
    }

    static void promise11RefusesOthersAheadOfTheSafeMode() {
        Expect.refused("setTask of nobody", INDEX, Scene::safeStation, x -> x.setTask(2, 'w'));
        Expect.refused("setTask of nobody", INDEX, Scene::safeStation, x -> x.setTask(-1, 'w'));
        Expect.refused("setTask of no task", ARGUMENT, Scene::safeStation, x -> x.setTask(0, 'x'));
    }
}
