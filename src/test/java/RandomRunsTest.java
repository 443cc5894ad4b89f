import java.util.function.Supplier;

/** Long runs of calls, the same each time, on the program and on the model: every answer is compared. */
final class RandomRunsTest {
    private static final int CALLS = 512;
    private static final int[] ODD = {-1, 0, 1, 2, 5, 6, 7, 8, 9, 10, 12, 40, 41, 90, 91, 99, 100, 200, 201, 500,
        501, -9, -10, Integer.MIN_VALUE, Integer.MAX_VALUE};

    private final Orbitdock program = new Orbitdock();
    private final Model model = new Model();
    private final StringBuilder run = new StringBuilder();
    private long seed;

    private RandomRunsTest(long seed) {
        this.seed = seed;
    }

    static void anyCallsOnAnEmptyStation() {
        for (int i = 0; i < 60; i++) {
            RandomRunsTest test = new RandomRunsTest(i);
            test.callMany(CALLS, 4);
        }
    }

    static void mostlyFittingCallsOnABuiltStation() {
        for (int i = 0; i < 120; i++) {
            RandomRunsTest test = new RandomRunsTest(1000 + i);
            int built = test.build();
            test.callMany(CALLS - built, 60);
        }
    }

    static void longRunsUpToTheLastMinute() {
        for (int i = 0; i < 30; i++) {
            RandomRunsTest test = new RandomRunsTest(2000 + i);
            int built = test.build();
            for (int calls = built; calls + 4 <= CALLS; calls += 4) {
                test.call(13, 0);
                test.callMany(1, 60);
                test.call(26, 0);
                test.call(27, 0);
            }
        }
    }

    // Wide rooms, few people and short times, so that somebody lives for most of the run.
    static void manyQuestionsToALivingStation() {
        int[] ways = {2, 2, 5, 5, 5, 6, 8, 8, 9, 9, 10, 10, 10, 11, 12, 12, 14, 14, 14, 15, 26, 27, 27, 28, 31};
        for (int i = 0; i < 120; i++) {
            RandomRunsTest test = new RandomRunsTest(3000 + i);
            test.buildWide();
            for (int calls = 40; calls < CALLS; calls++) {
                test.call(test.next(100) == 0 ? 3 : ways[test.next(ways.length)], 60);
            }
        }
    }

    private void buildWide() {
        for (int i = 0; i < 5; i++) {
            int oxygen = number(100, 200, 0);
            same("addRoom " + oxygen, () -> program.addRoom(oxygen), () -> model.addRoom(oxygen));
        }
        for (int i = 0; i < 25; i++) {
            call(i < 8 ? 1 : i < 16 ? 4 : i < 23 ? 5 : 7, 0);
        }
    }

    private int build() {
        int calls = 0;
        for (int i = 0; i < 40; i++) {
            int way = next(6);
            call(way < 2 ? 0 : way == 2 ? 1 : way == 3 ? 4 : way == 4 ? 5 : 7, 0);
            calls++;
        }
        return calls;
    }

    private void callMany(int calls, int oddOneIn) {
        for (int i = 0; i < calls; i++) {
            call(next(32), oddOneIn);
        }
    }

    private int next(int bound) {
        seed = seed * 6364136223846793005L + 1442695040888963407L;
        return (int) Long.remainderUnsigned(seed >>> 33, bound);
    }

    // A number from low to high, or now and then an odd one.
    private int number(int low, int high, int oddOneIn) {
        if (oddOneIn > 0 && next(oddOneIn) == 0) {
            return ODD[next(ODD.length)];
        }
        return low + next(high - low + 1);
    }

    private char sign(String signs, int oddOneIn) {
        if (oddOneIn > 0 && next(oddOneIn) == 0) {
            return (char) next(65536);
        }
        return signs.charAt(next(signs.length()));
    }

    private void call(int way, int odd) {
        if (way < 9) {
            buildCall(way, odd);
        } else if (way < 16) {
            timeCall(way, odd);
        } else {
            askCall(way, odd);
        }
    }

    private void buildCall(int way, int odd) {
        int a = number(0, way == 0 ? 200 : way == 6 ? 40 : way < 3 ? 7 : 5, odd);
        int b = number(0, way == 3 ? 9 : 5, odd);
        boolean yes = next(4) > 0;
        switch (way) {
            case 0: same("addRoom " + a, () -> program.addRoom(a), () -> model.addRoom(a)); break;
            case 1: same("addHatch " + a + ' ' + b, () -> program.addHatch(a, b), () -> model.addHatch(a, b)); break;
            case 2: same("setHatch " + a + yes, () -> program.setHatch(a, yes), () -> model.setHatch(a, yes)); break;
            case 3: same("setLeak " + a + ' ' + b, () -> program.setLeak(a, b), () -> model.setLeak(a, b)); break;
            case 4:
                char kind = sign("seeel", odd);
                same("addDevice " + kind + b, () -> program.addDevice(kind, b), () -> model.addDevice(kind, b));
                break;
            case 5:
                int device = number(0, 7, odd);
                same("setDevice " + device + yes, () -> program.setDevice(device, yes),
                        () -> model.setDevice(device, yes));
                break;
            case 6: same("setPanels " + a, () -> program.setPanels(a), () -> model.setPanels(a)); break;
            case 7: same("board " + b, () -> program.board(b), () -> model.board(b)); break;
            default: same("move " + a + ' ' + b, () -> program.move(a, b), () -> model.move(a, b)); break;
        }
    }

    private void timeCall(int way, int odd) {
        int a = number(0, way == 12 ? 3 : 7, odd);
        int b = number(-9, 9, odd);
        int minutes = number(1, next(3) == 0 ? 99 : 15, odd);
        switch (way) {
            case 9:
                char task = sign("rws", odd);
                int person = number(0, 5, odd);
                same("setTask " + person + task, () -> program.setTask(person, task),
                        () -> model.setTask(person, task));
                break;
            case 10:
                char kind = sign("nfoh", odd);
                int life = number(0, 99, odd);
                same("send " + kind + ' ' + a + ' ' + minutes + ' ' + life,
                        () -> program.send(kind, a, minutes, life), () -> model.send(kind, a, minutes, life));
                break;
            case 11:
                int distance = number(1, next(2) == 0 ? 500 : 20, odd);
                int water = number(0, 99, odd);
                same("approach " + distance + ' ' + water, () -> program.approach(distance, water),
                        () -> model.approach(distance, water));
                break;
            case 12: same("burn " + a + ' ' + b, () -> program.burn(a, b), () -> model.burn(a, b)); break;
            case 13: pass(number(1, 90, odd)); break;
            case 14: pass(number(1, 4, odd)); break;
            default: same("endSafe", program::endSafe, model::endSafe); break;
        }
    }

    private void pass(int minutes) {
        same("pass " + minutes, () -> program.pass(minutes), () -> model.pass(minutes));
    }

    private void askCall(int way, int odd) {
        int a = number(0, 7, odd);
        switch (way) {
            case 16: same("oxygen " + a, () -> program.oxygen(a), () -> model.oxygen(a)); break;
            case 17: same("carbon " + a, () -> program.carbon(a), () -> model.carbon(a)); break;
            case 18: same("water", program::water, model::water); break;
            case 19: same("battery", program::battery, model::battery); break;
            case 20: same("whereIs " + a, () -> program.whereIs(a), () -> model.whereIs(a)); break;
            case 21: same("distance " + a, () -> program.distance(a), () -> model.distance(a)); break;
            case 22: same("isOn " + a, () -> program.isOn(a), () -> model.isOn(a)); break;
            case 23: same("isSafe", program::isSafe, model::isSafe); break;
            case 24: same("events", program::events, model::events); break;
            case 25:
                int index = number(0, model.events(), odd);
                same("eventAt " + index, () -> program.eventAt(index), () -> model.eventAt(index));
                break;
            case 26: same("timeLeft", program::timeLeft, model::timeLeft); break;
            case 27: same("worst", program::worst, model::worst); break;
            case 28: same("checksum", program::checksum, model::checksum); break;
            case 29: same("aliveShare", program::aliveShare, model::aliveShare); break;
            case 30: same("meanOxygen", program::meanOxygen, model::meanOxygen); break;
            default: same("isSound", program::isSound, () -> true); break;
        }
    }

    private void same(String call, Supplier<Object> got, Supplier<Object> due) {
        run.append(call).append("; ");
        Object answer = answerOf(due);
        Object given = answerOf(got);
        if (!answer.equals(given)) {
            throw new AssertionError(run + " answered " + given + ", due is " + answer);
        }
    }

    private static Object answerOf(Supplier<Object> call) {
        try {
            return call.get();
        } catch (Model.Refusal e) {
            return e.getMessage();
        } catch (RuntimeException e) {
            return e.getClass().getSimpleName();
        }
    }
}
