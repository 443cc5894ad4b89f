/** Promise 15, and what the term "A minute" says of its steps and their order. */
final class MinuteTest {
    private static final Class<IllegalArgumentException> ARGUMENT = IllegalArgumentException.class;

    static void promise15ReturnsTheMinute() {
        Orbitdock x = new Orbitdock();
        Expect.same("minute", 1, x.pass(1));
        Expect.same("minute", 91, x.pass(90));
        Expect.same("minute", 93, x.pass(2));
    }

    static void promise15ManyMinutesAreSingleOnes() {
        Orbitdock many = Scene.safeStation();
        Orbitdock single = Scene.safeStation();
        many.pass(37);
        for (int i = 0; i < 37; i++) {
            single.pass(1);
        }
        Expect.same("all", Probe.answers(many), Probe.answers(single));
    }

    static void promise15Refuses() {
        for (int minutes : new int[] {0, 91, -1, Integer.MIN_VALUE, Integer.MAX_VALUE}) {
            Expect.refused("pass", ARGUMENT, Scene::twoRooms, x -> x.pass(minutes));
            Expect.refused("pass at the end", ARGUMENT, Scene::atMinute9990, x -> x.pass(minutes));
        }
        for (int minutes : new int[] {10, 90}) {
            Expect.refused("pass", ArithmeticException.class, Scene::atMinute9990, x -> x.pass(minutes));
        }
    }

    static void promise15ReachesMinute9999() {
        Orbitdock x = Scene.atMinute9990();
        Expect.same("minute", 9999, x.pass(9));
        Expect.same("one more", ArithmeticException.class, Expect.thrownBy(() -> x.pass(1)));
        Expect.same("no minutes", ARGUMENT, Expect.thrownBy(() -> x.pass(0)));
    }

    static void theStepsOfAMinuteComeInTheirOrder() {
        Orbitdock x = Scene.oneRoom(0);
        x.addRoom(0);
        x.addHatch(0, 1);
        x.setLeak(0, 1);
        Scene.turnOn(x, "e");
        x.board(1);
        x.pass(1);
        // 3 are made, 1 leaks, 1 goes through the hatch, and is breathed.
        Expect.same("oxygen", 1, x.oxygen(0));
        Expect.same("oxygen", 0, x.oxygen(1));
        Expect.same("carbon", 1, x.carbon(1));
    }
}
