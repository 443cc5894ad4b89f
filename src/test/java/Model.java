import java.util.ArrayList;
import java.util.List;

/**
 * A second reading of the document, in its plainest form and in another way than the program: objects
 * that know each other, lists, and a copy for each question. It is there to be compared with.
 */
final class Model {
    static final class Refusal extends RuntimeException {
        private static final long serialVersionUID = 1L;

        Refusal(String name) {
            super(name, null, false, false);
        }
    }

    private static final class Room {
        int oxygen;
        int carbon;
        int leak;
    }

    private static final class Hatch {
        Room a;
        Room b;
        boolean open = true;
    }

    private static final class Device {
        char kind;
        Room room;
        boolean on;
        boolean broken;
    }

    private static final class Person {
        Room room;
        char task = 'r';
        int gasps;
        boolean alive = true;
    }

    private static final class Command {
        char kind;
        Device device;
        Hatch hatch;
        int from;
        int until;
    }

    private static final class Ship {
        int distance;
        int speed;
        int fuel = 20;
        int water;
        boolean here;
    }

    private final List<Room> rooms = new ArrayList<>();
    private final List<Hatch> hatches = new ArrayList<>();
    private final List<Device> devices = new ArrayList<>();
    private final List<Person> people = new ArrayList<>();
    private final List<Command> commands = new ArrayList<>();
    private final List<Ship> ships = new ArrayList<>();
    private final StringBuilder log = new StringBuilder();
    private int clock;
    private int sun = 10;
    private int charge = 100;
    private int tank = 50;
    private boolean safe;

    private static void check(boolean holds, String exception) {
        if (!holds) {
            throw new Refusal(exception);
        }
    }

    private static <T> T pick(List<T> list, int index) {
        check(index >= 0 && index < list.size(), "IndexOutOfBoundsException");
        return list.get(index);
    }

    private static void within(int number, int low, int high) {
        check(low <= number && number <= high, "IllegalArgumentException");
    }

    private static <T> int join(List<T> list, T item, int most) {
        check(list.size() < most, "IllegalStateException");
        list.add(item);
        return list.size() - 1;
    }

    int addRoom(int oxygen) {
        within(oxygen, 0, 200);
        Room room = new Room();
        room.oxygen = oxygen;
        return join(rooms, room, 6);
    }

    int addHatch(int one, int other) {
        Hatch hatch = new Hatch();
        hatch.a = pick(rooms, one);
        hatch.b = pick(rooms, other);
        check(hatch.a != hatch.b, "IllegalArgumentException");
        return join(hatches, hatch, 8);
    }

    boolean setHatch(int number, boolean open) {
        Hatch hatch = pick(hatches, number);
        boolean was = hatch.open;
        hatch.open = open;
        return was;
    }

    int setLeak(int number, int leak) {
        Room room = pick(rooms, number);
        within(leak, 0, 9);
        int was = room.leak;
        room.leak = leak;
        return was;
    }

    int addDevice(char kind, int room) {
        check("sel".indexOf(kind) >= 0, "IllegalArgumentException");
        Device device = new Device();
        device.kind = kind;
        device.room = pick(rooms, room);
        return join(devices, device, 8);
    }

    boolean setDevice(int number, boolean on) {
        Device device = pick(devices, number);
        check(!(on && device.kind == 'l' && safe), "UnsupportedOperationException");
        boolean was = device.on;
        device.on = on;
        return was;
    }

    int setPanels(int units) {
        within(units, 0, 40);
        int was = sun;
        sun = units;
        return was;
    }

    int board(int room) {
        Person person = new Person();
        person.room = pick(rooms, room);
        return join(people, person, 6);
    }

    int move(int number, int roomNumber) {
        Person person = pick(people, number);
        Room room = pick(rooms, roomNumber);
        check(person.alive, "IllegalStateException");
        boolean way = hatches.stream().anyMatch(h -> h.open && h.a != h.b
                && (h.a == room || h.b == room) && (h.a == person.room || h.b == person.room)
                && room != person.room);
        check(way, "UnsupportedOperationException");
        int was = rooms.indexOf(person.room);
        person.room = room;
        return was;
    }

    char setTask(int number, char task) {
        Person person = pick(people, number);
        check("rws".indexOf(task) >= 0, "IllegalArgumentException");
        check(person.alive, "IllegalStateException");
        check(task != 'w' || !safe, "UnsupportedOperationException");
        char was = person.task;
        person.task = task;
        return was;
    }

    int send(char kind, int target, int minutes, int life) {
        check("nfoh".indexOf(kind) >= 0, "IllegalArgumentException");
        within(minutes, 1, 99);
        within(life, 0, 99);
        Command command = new Command();
        command.kind = kind;
        if ("nf".indexOf(kind) >= 0) {
            command.device = pick(devices, target);
        } else {
            command.hatch = pick(hatches, target);
        }
        command.from = clock + minutes;
        command.until = command.from + life;
        check(commands.size() < 12, "IllegalStateException");
        check(!safe, "UnsupportedOperationException");
        commands.add(command);
        return commands.size();
    }

    int approach(int distance, int water) {
        within(distance, 1, 500);
        within(water, 0, 99);
        Ship ship = new Ship();
        ship.distance = distance;
        ship.water = water;
        ship.here = true;
        return join(ships, ship, 4);
    }

    int burn(int number, int change) {
        Ship ship = pick(ships, number);
        within(change, -9, 9);
        check(ship.here, "IllegalStateException");
        int cost = change < 0 ? -change : change;
        check(cost <= ship.fuel, "UnsupportedOperationException");
        ship.fuel -= cost;
        ship.speed += change;
        return ship.fuel;
    }

    int pass(int minutes) {
        within(minutes, 1, 90);
        check(clock + minutes <= 9999, "ArithmeticException");
        for (int left = minutes; left > 0; left--) {
            minute();
        }
        return clock;
    }

    boolean endSafe() {
        boolean was = safe;
        safe = false;
        return was;
    }

    int oxygen(int room) {
        return pick(rooms, room).oxygen;
    }

    int carbon(int room) {
        return pick(rooms, room).carbon;
    }

    int water() {
        return tank;
    }

    int battery() {
        return charge;
    }

    int whereIs(int number) {
        Person person = pick(people, number);
        return person.alive ? rooms.indexOf(person.room) : -1;
    }

    int distance(int number) {
        Ship ship = pick(ships, number);
        return ship.here ? ship.distance : -1;
    }

    boolean isOn(int device) {
        return pick(devices, device).on;
    }

    boolean isSafe() {
        return safe;
    }

    int events() {
        return log.length();
    }

    char eventAt(int index) {
        check(index >= 0 && index < log.length(), "IndexOutOfBoundsException");
        return log.charAt(index);
    }

    int timeLeft() {
        return copy().minutesUntilSomebodyDies();
    }

    int worst() {
        int worst = timeLeft();
        for (int i = 0; i < devices.size(); i++) {
            Model other = copy();
            other.devices.get(i).broken = true;
            worst = Math.min(worst, other.minutesUntilSomebodyDies());
        }
        return worst;
    }

    long checksum() {
        long sum = 0;
        for (Room room : rooms) {
            sum = 31 * sum + room.oxygen + 7 * room.carbon;
        }
        return sum;
    }

    float aliveShare() {
        check(!people.isEmpty(), "ArithmeticException");
        return (float) people.stream().filter(p -> p.alive).count() / (float) people.size();
    }

    double meanOxygen() {
        check(!rooms.isEmpty(), "ArithmeticException");
        return (double) rooms.stream().mapToInt(r -> r.oxygen).sum() / (double) rooms.size();
    }

    private int minutesUntilSomebodyDies() {
        long before = people.stream().filter(p -> p.alive).count();
        for (int minutes = 1; minutes <= 300; minutes++) {
            minute();
            if (people.stream().filter(p -> p.alive).count() < before) {
                return minutes;
            }
        }
        return 300;
    }

    private void minute() {
        int inOrbit = clock % 90;
        act(inOrbit > 9 && inOrbit < 50);
        fly();
        power(inOrbit < 60 ? sun : 0);
        for (Room room : rooms) {
            room.oxygen = Math.max(0, room.oxygen - room.leak);
        }
        for (Hatch hatch : hatches) {
            if (hatch.open) {
                mix(hatch.a, hatch.b);
                mix(hatch.b, hatch.a);
            }
        }
        for (Person person : people) {
            if (person.alive) {
                breathe(person);
            }
        }
        if (!safe && people.stream().anyMatch(p -> p.alive && (p.room.oxygen < 10 || p.room.carbon > 40))) {
            safe = true;
            devices.stream().filter(d -> d.kind == 'l').forEach(d -> d.on = false);
            people.stream().filter(p -> p.task == 'w').forEach(p -> p.task = 'r');
            commands.clear();
            log.append('s');
        }
        clock++;
    }

    private void act(boolean contact) {
        for (Command command : new ArrayList<>(commands)) {
            if (clock > command.until) {
                log.append('x');
                commands.remove(command);
            } else if (contact && clock >= command.from) {
                switch (command.kind) {
                    case 'n': command.device.on = true; break;
                    case 'f': command.device.on = false; break;
                    case 'o': command.hatch.open = true; break;
                    default: command.hatch.open = false; break;
                }
                log.append('c');
                commands.remove(command);
            }
        }
    }

    private void fly() {
        for (Ship ship : ships) {
            if (!ship.here) {
                continue;
            }
            ship.distance -= ship.speed;
            if (ship.distance > 0) {
                continue;
            }
            if (ship.speed > 2) {
                ship.distance = 100;
                ship.speed = 0;
                log.append('t');
            } else {
                tank += ship.water;
                ship.here = false;
                log.append('d');
            }
        }
    }

    private void power(int given) {
        int power = charge + given;
        for (Device device : devices) {
            int needs = device.kind == 's' ? 3 : device.kind == 'e' ? 5 : 2;
            if (!device.on || device.broken || needs > power) {
                continue;
            }
            power -= needs;
            if (device.kind == 's') {
                device.room.carbon = Math.max(0, device.room.carbon - 4);
            }
            for (int i = 0; i < 3 && device.kind == 'e' && tank > 0; i++) {
                device.room.oxygen++;
                tank--;
            }
        }
        charge = power > 200 ? 200 : power;
    }

    // From the room that has more, alone: for the other one the half is 0 at the most.
    private static void mix(Room more, Room less) {
        int oxygen = Math.max(0, more.oxygen - less.oxygen) / 2;
        int carbon = Math.max(0, more.carbon - less.carbon) / 2;
        more.oxygen -= oxygen;
        less.oxygen += oxygen;
        more.carbon -= carbon;
        less.carbon += carbon;
    }

    private void breathe(Person person) {
        int need = person.task == 'w' ? 2 : 1;
        if (person.task == 's' && clock % 2 == 1) {
            need = 0;
        }
        int had = 0;
        while (had < need && person.room.oxygen > 0) {
            person.room.oxygen--;
            person.room.carbon++;
            had++;
        }
        person.gasps = had < need ? person.gasps + 1 : 0;
        if (person.gasps == 3) {
            person.alive = false;
            log.append('k');
        }
    }

    private Model copy() {
        Model copy = new Model();
        for (Room room : rooms) {
            copy.rooms.get(copy.addRoom(0)).oxygen = room.oxygen;
            Room same = copy.rooms.get(copy.rooms.size() - 1);
            same.carbon = room.carbon;
            same.leak = room.leak;
        }
        for (Hatch hatch : hatches) {
            copy.setHatch(copy.addHatch(rooms.indexOf(hatch.a), rooms.indexOf(hatch.b)), hatch.open);
        }
        for (Device device : devices) {
            copy.setDevice(copy.addDevice(device.kind, rooms.indexOf(device.room)), device.on);
        }
        for (Person person : people) {
            Person same = copy.people.get(copy.board(rooms.indexOf(person.room)));
            same.task = person.task;
            same.gasps = person.gasps;
            same.alive = person.alive;
        }
        for (Command command : commands) {
            boolean toDevice = command.device != null;
            int target = toDevice ? devices.indexOf(command.device) : hatches.indexOf(command.hatch);
            copy.send(command.kind, target, 1, 0);
            Command same = copy.commands.get(copy.commands.size() - 1);
            same.from = command.from;
            same.until = command.until;
        }
        for (Ship ship : ships) {
            Ship same = copy.ships.get(copy.approach(1, ship.water));
            same.distance = ship.distance;
            same.speed = ship.speed;
            same.here = ship.here;
        }
        copy.clock = clock;
        copy.sun = sun;
        copy.charge = charge;
        copy.tank = tank;
        copy.safe = safe;
        return copy;
    }
}
