import java.util.function.Supplier;

/**
 * Tells a station as a text: what it answers, and what only shows by further calls. Two stations with the
 * same text are alike. Telling everything uses the station up.
 */
final class Probe {
    // One more than there can be of anything that is asked by its number.
    private static final int MANY = 9;
    // So few that a scene and its probe stay within the 512 calls for which an object is promised.
    private static final int SINGLE_MINUTES = 50;

    private Probe() { }

    static String everything(Orbitdock x) {
        StringBuilder text = new StringBuilder(answers(x));
        text.append(settings(x));
        for (int i = 0; i < SINGLE_MINUTES; i++) {
            text.append('\n').append(attempt(() -> x.pass(1))).append(' ').append(x.checksum())
                    .append(' ').append(x.battery()).append(' ').append(x.events());
        }
        text.append(attempt(() -> x.pass(90))).append(' ').append(attempt(() -> x.pass(90)));
        return text.append(answers(x)).append(freePlaces(x)).toString();
    }

    /** All that can be asked without a change. */
    static String answers(Orbitdock x) {
        StringBuilder text = new StringBuilder();
        for (int i = -1; i < MANY; i++) {
            int number = i;
            text.append(' ').append(attempt(() -> x.oxygen(number)))
                    .append(' ').append(attempt(() -> x.carbon(number)))
                    .append(' ').append(attempt(() -> x.whereIs(number)))
                    .append(' ').append(attempt(() -> x.distance(number)))
                    .append(' ').append(attempt(() -> x.isOn(number)));
        }
        text.append(" water ").append(x.water()).append(" battery ").append(x.battery());
        text.append(" safe ").append(x.isSafe()).append(" events ").append(Expect.eventsOf(x));
        text.append(attempt(() -> x.eventAt(-1))).append(attempt(() -> x.eventAt(x.events())));
        text.append(" left ").append(x.timeLeft()).append(" worst ").append(x.worst());
        text.append(" sum ").append(x.checksum()).append(" alive ").append(attempt(x::aliveShare));
        text.append(" mean ").append(attempt(x::meanOxygen)).append(" sound ").append(x.isSound());
        return text.toString();
    }

    // What setters tell of the value before; each value is put back.
    private static String settings(Orbitdock x) {
        StringBuilder text = new StringBuilder(" settings");
        int panels = x.setPanels(0);
        x.setPanels(panels);
        text.append(' ').append(panels);
        for (int i = 0; i < MANY; i++) {
            int number = i;
            text.append(' ').append(attempt(() -> leakOf(x, number)))
                    .append(' ').append(attempt(() -> isOpen(x, number)))
                    .append(' ').append(attempt(() -> taskOf(x, number)))
                    .append(' ').append(attempt(() -> x.burn(number, 0)));
        }
        return text.toString();
    }

    private static int leakOf(Orbitdock x, int room) {
        int leak = x.setLeak(room, 0);
        x.setLeak(room, leak);
        return leak;
    }

    private static boolean isOpen(Orbitdock x, int hatch) {
        boolean open = x.setHatch(hatch, true);
        x.setHatch(hatch, open);
        return open;
    }

    private static char taskOf(Orbitdock x, int person) {
        char task = x.setTask(person, 'r');
        x.setTask(person, task);
        return task;
    }

    private static String freePlaces(Orbitdock x) {
        return " free " + attempt(() -> x.addRoom(0)) + ' ' + attempt(() -> x.addHatch(0, 1)) + ' '
                + attempt(() -> x.addDevice('l', 0)) + ' ' + attempt(() -> x.board(0)) + ' '
                + attempt(() -> x.approach(1, 0)) + ' ' + attempt(() -> x.send('f', 0, 1, 0));
    }

    static String attempt(Supplier<Object> call) {
        try {
            return String.valueOf(call.get());
        } catch (RuntimeException e) {
            return e.getClass().getSimpleName();
        }
    }
}
