/** What the term "Crew" and its clarifications say of breathing and dying. */
final class BreathTest {
    static void peopleBreatheByTask() {
        Orbitdock x = Scene.oneRoom(100);
        x.addRoom(100);
        x.addRoom(100);
        x.board(0);
        x.board(1);
        x.board(2);
        x.setTask(1, 'w');
        x.setTask(2, 's');
        x.pass(1);
        Expect.same("sleeper in minute 0", 99, x.oxygen(2));
        x.pass(1);
        Expect.same("sleeper in minute 1", 99, x.oxygen(2));
        x.pass(2);
        Expect.same("at rest", 96, x.oxygen(0));
        Expect.same("at rest", 4, x.carbon(0));
        Expect.same("at work", 92, x.oxygen(1));
        Expect.same("at work", 8, x.carbon(1));
        Expect.same("asleep", 98, x.oxygen(2));
        Expect.same("asleep", 2, x.carbon(2));
    }

    static void sleepersBreatheInEvenMinutes() {
        Orbitdock x = Scene.oneRoom(100);
        x.board(0);
        x.setTask(0, 's');
        for (int minute = 0; minute < 20; minute++) {
            x.pass(1);
            Expect.same("behind minute " + minute, 99 - minute / 2, x.oxygen(0));
        }
    }

    static void peopleBreatheByRisingNumbers() {
        Orbitdock x = Scene.oneRoom(1);
        x.board(0);
        x.board(0);
        x.pass(3);
        Expect.same("the first one got a unit", 0, x.whereIs(0));
        Expect.same("the second one", -1, x.whereIs(1));
        x.pass(1);
        Expect.same("the first one", -1, x.whereIs(0));
    }

    static void somebodyDiesInTheThirdShortMinute() {
        Orbitdock x = Scene.oneRoom(0);
        x.board(0);
        x.pass(2);
        Expect.same("behind two", 0, x.whereIs(0));
        Expect.same("events", "s", Expect.eventsOf(x));
        x.pass(1);
        Expect.same("behind three", -1, x.whereIs(0));
        Expect.same("events", "sk", Expect.eventsOf(x));
        x.pass(5);
        Expect.same("nobody dies twice", "sk", Expect.eventsOf(x));
    }

    static void aWorkerWithOneUnitGetsTooLittle() {
        Orbitdock x = Scene.oneRoom(0);
        x.board(0);
        x.pass(1);
        x.endSafe();
        x.setTask(0, 'w');
        Scene.turnOn(x, "e");
        x.setLeak(0, 2);
        x.pass(1);
        Expect.same("carbon", 1, x.carbon(0));
        Expect.same("at rest by the safe mode", 'r', x.setTask(0, 'r'));
        x.setDevice(0, false);
        x.pass(1);
        Expect.same("dies in the third minute", -1, x.whereIs(0));
    }

    static void enoughAirEndsTheRow() {
        Orbitdock x = Scene.oneRoom(0);
        x.board(0);
        Scene.turnOn(x, "e");
        x.setLeak(0, 3);
        x.pass(2);
        x.setLeak(0, 2);
        x.pass(1);
        Expect.same("carbon", 1, x.carbon(0));
        x.setLeak(0, 3);
        x.pass(2);
        Expect.same("lives behind two more", 0, x.whereIs(0));
        x.pass(1);
        Expect.same("dies behind three", -1, x.whereIs(0));
    }

    static void aSleeperWhoNeedsNothingEndsTheRow() {
        Orbitdock x = Scene.oneRoom(0);
        x.board(0);
        x.setTask(0, 's');
        x.pass(20);
        Expect.same("lives on", 0, x.whereIs(0));
        x.setTask(0, 'r');
        x.pass(2);
        Expect.same("lives on", 0, x.whereIs(0));
        x.pass(1);
        Expect.same("dies", -1, x.whereIs(0));
    }

    static void whoDiedUsesNothing() {
        Orbitdock x = Scene.oneRoom(0);
        x.board(0);
        x.pass(3);
        Scene.turnOn(x, "e");
        x.pass(4);
        Expect.same("oxygen", 12, x.oxygen(0));
        Expect.same("carbon", 0, x.carbon(0));
    }

    static void peopleDieByRisingNumbersAheadOfTheSafeMode() {
        Orbitdock x = Scene.oneRoom(0);
        x.board(0);
        x.board(0);
        x.pass(2);
        x.endSafe();
        x.board(0);
        x.pass(1);
        Expect.same("events", "skks", Expect.eventsOf(x));
    }

    // Somebody has gone two minutes without air; in the third one the room gets the units that are told.
    private static boolean livesBehindTheThird(int first, char task, int units) {
        Orbitdock x = Scene.oneRoom(0);
        if (first > 0) {
            x.pass(first);
        }
        x.board(0);
        x.pass(2);
        x.endSafe();
        x.setTask(0, task);
        Scene.turnOn(x, "e");
        x.setLeak(0, 3 - units);
        x.pass(1);
        return x.whereIs(0) == 0;
    }

    static void whoRestsNeedsOneUnit() {
        Expect.same("without", false, livesBehindTheThird(0, 'r', 0));
        Expect.same("with 1", true, livesBehindTheThird(0, 'r', 1));
        Expect.same("without, in an odd minute", false, livesBehindTheThird(1, 'r', 0));
    }

    static void whoWorksNeedsTwoUnits() {
        Expect.same("without", false, livesBehindTheThird(0, 'w', 0));
        Expect.same("with 1", false, livesBehindTheThird(0, 'w', 1));
        Expect.same("with 2", true, livesBehindTheThird(0, 'w', 2));
        Expect.same("with 1, in an odd minute", false, livesBehindTheThird(1, 'w', 1));
    }

    static void whoSleepsNeedsOneUnitInEvenMinutes() {
        Expect.same("without, in minute 2", false, livesBehindTheThird(0, 's', 0));
        Expect.same("with 1, in minute 2", true, livesBehindTheThird(0, 's', 1));
        Expect.same("without, in minute 3", true, livesBehindTheThird(1, 's', 0));
    }

    static void aMinuteInWhichASleeperNeedsNothingEndsTheRow() {
        Orbitdock x = Scene.oneRoom(0);
        x.pass(1);
        x.board(0);
        x.pass(2);
        Expect.same("would die in this minute", 1, x.timeLeft());
        x.setTask(0, 's');
        x.pass(1);
        x.setTask(0, 'r');
        Expect.same("the row begins anew", 3, x.timeLeft());
        x.pass(2);
        Expect.same("lives", 0, x.whereIs(0));
        x.pass(1);
        Expect.same("dies", -1, x.whereIs(0));
    }

    static void twoShortMinutesAreForgottenBehindOneWithAir() {
        Orbitdock x = Scene.alone(0);
        for (int i = 0; i < 5; i++) {
            x.pass(2);
            Expect.same("lives", 0, x.whereIs(0));
            Expect.same("left", 1, x.timeLeft());
            if (i == 0) {
                Scene.turnOn(x, "e");
            }
            x.setDevice(0, true);
            x.setLeak(0, 2);
            x.pass(1);
            x.setDevice(0, false);
            Expect.same("left", 3, x.timeLeft());
        }
        Expect.same("carbon", 5, x.carbon(0));
    }

    static void theRowGoesOnWhileTheTaskChanges() {
        Orbitdock x = Scene.oneRoom(1);
        x.board(0);
        x.setTask(0, 'w');
        x.pass(1);
        Expect.same("1 of 2 units", 1, x.carbon(0));
        x.endSafe();
        x.setTask(0, 'r');
        x.pass(1);
        x.setTask(0, 's');
        Expect.same("lives behind two", 0, x.whereIs(0));
        x.pass(1);
        Expect.same("dies in the third", -1, x.whereIs(0));
    }

    static void theRowGoesOnInAnotherRoom() {
        Orbitdock x = Scene.alone(0);
        x.addRoom(0);
        x.addHatch(0, 1);
        x.pass(2);
        x.move(0, 1);
        x.pass(1);
        Expect.same("dies", -1, x.whereIs(0));
        Orbitdock saved = Scene.alone(0);
        saved.addRoom(200);
        saved.setHatch(saved.addHatch(0, 1), false);
        saved.pass(2);
        saved.setHatch(0, true);
        saved.move(0, 1);
        saved.pass(1);
        Expect.same("lives", 1, saved.whereIs(0));
    }

    static void whoDiedAtWorkOrAsleepUsesNothing() {
        for (char task : new char[] {'w', 's'}) {
            Orbitdock x = Scene.alone(0);
            x.pass(2);
            x.endSafe();
            x.setTask(0, task);
            x.pass(1);
            Expect.same("died", -1, x.whereIs(0));
            Scene.turnOn(x, "e");
            x.pass(4);
            Expect.same("oxygen", 12, x.oxygen(0));
            Expect.same("carbon", 0, x.carbon(0));
        }
    }

    static void sleepersOfTheStepToTheNextOrbit() {
        Orbitdock x = Scene.oneRoom(100);
        x.pass(87);
        x.board(0);
        x.setTask(0, 's');
        int[] due = {100, 99, 99, 98, 98, 97};
        for (int i = 0; i < due.length; i++) {
            x.pass(1);
            Expect.same("behind minute " + (87 + i), due[i], x.oxygen(0));
        }
    }

    static void allMayDieInOneMinute() {
        Orbitdock x = Scene.oneRoom(0);
        for (int i = 0; i < 6; i++) {
            x.board(0);
        }
        x.pass(2);
        Expect.same("alive", 1.0f, x.aliveShare());
        x.pass(1);
        Expect.same("events", "skkkkkk", Expect.eventsOf(x));
        Expect.same("left", 300, x.timeLeft());
    }
}
