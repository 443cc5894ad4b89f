import java.util.Objects;
import java.util.function.Consumer;
import java.util.function.Supplier;

/** What the tests ask of an answer. */
final class Expect {
    private Expect() { }

    static void same(String what, Object due, Object got) {
        if (!Objects.equals(due, got)) {
            throw new AssertionError(what + " answered " + got + ", due is " + due);
        }
    }

    /** The call throws exactly the class that is due, and leaves all, hidden state too, as it was. */
    static void refused(String what, Class<? extends RuntimeException> due, Supplier<Orbitdock> scene,
            Consumer<Orbitdock> call) {
        Orbitdock touched = scene.get();
        same(what, due, thrownBy(() -> call.accept(touched)));
        same("the state behind a refused " + what, Probe.everything(scene.get()), Probe.everything(touched));
    }

    static Class<?> thrownBy(Runnable call) {
        try {
            call.run();
            return null;
        } catch (RuntimeException e) {
            return e.getClass();
        }
    }

    static String eventsOf(Orbitdock station) {
        StringBuilder row = new StringBuilder();
        int events = station.events();
        for (int i = 0; i < events; i++) {
            row.append(station.eventAt(i));
        }
        return row.toString();
    }
}
