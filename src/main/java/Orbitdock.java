/** A station in orbit; shared/DOC.md tells what each call does, and in which order its exceptions apply. */
public final class Orbitdock {
    private static final int MAX_ROOMS = 6;
    private static final int MAX_HATCHES = 8;
    private static final int MAX_DEVICES = 8;
    private static final int MAX_PEOPLE = 6;
    private static final int MAX_COMMANDS = 12;
    private static final int MAX_SHIPS = 4;
    // Every event but the first 's' has a call of its own behind it (send, endSafe, board, approach
    // or burn), so the 512 calls that an object is used for can't fill this row.
    private static final int MAX_EVENTS = 1024;
    private static final int LAST_MINUTE = 9999;
    private static final int FORECAST_MINUTES = 300;
    private static final int NO_DEVICE = -1;

    private static final int MAX_OXYGEN = 200;
    private static final int MAX_LEAK = 9;
    private static final int LOW_OXYGEN = 10;
    private static final int HIGH_CARBON = 40;
    private static final int FATAL_MINUTES = 3;

    private static final int ORBIT_MINUTES = 90;
    private static final int SUN_MINUTES = 60;
    private static final int CONTACT_FROM = 10;
    private static final int CONTACT_TO = 49;
    private static final int MAX_PASS = 90;

    private static final int FIRST_PANELS = 10;
    private static final int MAX_PANELS = 40;
    private static final int FIRST_BATTERY = 100;
    private static final int MAX_BATTERY = 200;
    private static final int FIRST_WATER = 50;
    private static final int SCRUBBER_POWER = 3;
    private static final int ELECTROLYSER_POWER = 5;
    private static final int LAMP_POWER = 2;
    private static final int SCRUBBED_CARBON = 4;
    private static final int MADE_OXYGEN = 3;

    private static final int MAX_ARRIVAL = 99;
    private static final int MAX_LIFE = 99;

    private static final int FIRST_FUEL = 20;
    private static final int MAX_DISTANCE = 500;
    private static final int MAX_SHIP_WATER = 99;
    private static final int MAX_BURN = 9;
    private static final int DOCKING_SPEED = 2;
    private static final int TURNED_DISTANCE = 100;

    private final Station now;
    // Made once and used for every question about the time to come, so that no question makes objects.
    private final Station forecast;

    public Orbitdock() {
        now = new Station(MAX_EVENTS);
        forecast = new Station(0);
    }

    // The station.

    public int addRoom(int oxygen) throws IllegalArgumentException, IllegalStateException {
        requireRange(oxygen, 0, MAX_OXYGEN);
        if (now.rooms.isFull()) {
            throw new IllegalStateException("no more rooms");
        }
        now.came += oxygen;
        return now.rooms.add(oxygen);
    }

    public int addHatch(int one, int other)
            throws IndexOutOfBoundsException, IllegalArgumentException, IllegalStateException {
        requireRoom(one);
        requireRoom(other);
        if (one == other) {
            throw new IllegalArgumentException("a hatch joins two rooms");
        }
        if (now.hatches.isFull()) {
            throw new IllegalStateException("no more hatches");
        }
        return now.hatches.add(one, other);
    }

    public boolean setHatch(int hatch, boolean isOpen) throws IndexOutOfBoundsException {
        requireIndex(hatch, now.hatches.count);
        boolean wasOpen = now.hatches.open[hatch];
        now.hatches.open[hatch] = isOpen;
        return wasOpen;
    }

    public int setLeak(int room, int leak) throws IndexOutOfBoundsException, IllegalArgumentException {
        requireRoom(room);
        requireRange(leak, 0, MAX_LEAK);
        int before = now.rooms.leak[room];
        now.rooms.leak[room] = leak;
        return before;
    }

    public int addDevice(char kind, int room)
            throws IllegalArgumentException, IndexOutOfBoundsException, IllegalStateException {
        if (kind != 's' && kind != 'e' && kind != 'l') {
            throw new IllegalArgumentException("no such kind of device");
        }
        requireRoom(room);
        if (now.devices.isFull()) {
            throw new IllegalStateException("no more devices");
        }
        return now.devices.add(kind, room);
    }

    public boolean setDevice(int device, boolean isOn)
            throws IndexOutOfBoundsException, UnsupportedOperationException {
        requireIndex(device, now.devices.count);
        if (isOn && now.safe && now.devices.kind[device] == 'l') {
            throw new UnsupportedOperationException("no lamps in the safe mode");
        }
        boolean wasOn = now.devices.on[device];
        now.devices.on[device] = isOn;
        return wasOn;
    }

    public int setPanels(int units) throws IllegalArgumentException {
        requireRange(units, 0, MAX_PANELS);
        int before = now.panels;
        now.panels = units;
        return before;
    }

    // Crew.

    public int board(int room) throws IndexOutOfBoundsException, IllegalStateException {
        requireRoom(room);
        if (now.crew.isFull()) {
            throw new IllegalStateException("no more people");
        }
        return now.crew.add(room);
    }

    public int move(int person, int room)
            throws IndexOutOfBoundsException, IllegalStateException, UnsupportedOperationException {
        requireIndex(person, now.crew.count);
        requireRoom(room);
        requireAlive(person);
        int before = now.crew.room[person];
        if (!now.hatches.joinsOpen(before, room)) {
            throw new UnsupportedOperationException("no open hatch joins the rooms");
        }
        now.crew.room[person] = room;
        return before;
    }

    public char setTask(int person, char task) throws IndexOutOfBoundsException, IllegalArgumentException,
            IllegalStateException, UnsupportedOperationException {
        requireIndex(person, now.crew.count);
        if (task != 'r' && task != 'w' && task != 's') {
            throw new IllegalArgumentException("no such task");
        }
        requireAlive(person);
        if (task == 'w' && now.safe) {
            throw new UnsupportedOperationException("no work in the safe mode");
        }
        char before = now.crew.task[person];
        now.crew.task[person] = task;
        return before;
    }

    // Commands and ships.

    public int send(char kind, int target, int minutes, int life) throws IllegalArgumentException,
            IndexOutOfBoundsException, IllegalStateException, UnsupportedOperationException {
        boolean isForDevice = kind == 'n' || kind == 'f';
        if (!isForDevice && kind != 'o' && kind != 'h') {
            throw new IllegalArgumentException("no such kind of command");
        }
        requireRange(minutes, 1, MAX_ARRIVAL);
        requireRange(life, 0, MAX_LIFE);
        requireIndex(target, isForDevice ? now.devices.count : now.hatches.count);
        if (now.commands.isFull()) {
            throw new IllegalStateException("no more commands");
        }
        if (now.safe) {
            throw new UnsupportedOperationException("no commands in the safe mode");
        }
        return now.commands.add(kind, target, now.minute + minutes, life);
    }

    public int approach(int distance, int water) throws IllegalArgumentException, IllegalStateException {
        requireRange(distance, 1, MAX_DISTANCE);
        requireRange(water, 0, MAX_SHIP_WATER);
        if (now.ships.isFull()) {
            throw new IllegalStateException("no more ships");
        }
        return now.ships.add(distance, water);
    }

    public int burn(int ship, int change) throws IndexOutOfBoundsException, IllegalArgumentException,
            IllegalStateException, UnsupportedOperationException {
        requireIndex(ship, now.ships.count);
        requireRange(change, -MAX_BURN, MAX_BURN);
        if (now.ships.gone[ship]) {
            throw new IllegalStateException("the ship is gone");
        }
        int needed = Math.abs(change);
        if (needed > now.ships.fuel[ship]) {
            throw new UnsupportedOperationException("not so much fuel");
        }
        now.ships.speed[ship] += change;
        now.ships.fuel[ship] -= needed;
        return now.ships.fuel[ship];
    }

    public int pass(int minutes) throws IllegalArgumentException, ArithmeticException {
        requireRange(minutes, 1, MAX_PASS);
        if (now.minute + minutes > LAST_MINUTE) {
            throw new ArithmeticException("the minute would be too great");
        }
        for (int i = 0; i < minutes; i++) {
            now.passMinute();
        }
        return now.minute;
    }

    public boolean endSafe() {
        boolean wasSafe = now.safe;
        now.safe = false;
        return wasSafe;
    }

    // Asked.

    public int oxygen(int room) throws IndexOutOfBoundsException {
        requireRoom(room);
        return now.rooms.oxygen[room];
    }

    public int carbon(int room) throws IndexOutOfBoundsException {
        requireRoom(room);
        return now.rooms.carbon[room];
    }

    public int water() {
        return now.tank;
    }

    public int battery() {
        return now.battery;
    }

    public int whereIs(int person) throws IndexOutOfBoundsException {
        requireIndex(person, now.crew.count);
        return now.crew.died[person] ? -1 : now.crew.room[person];
    }

    public int distance(int ship) throws IndexOutOfBoundsException {
        requireIndex(ship, now.ships.count);
        return now.ships.gone[ship] ? -1 : now.ships.distance[ship];
    }

    public boolean isOn(int device) throws IndexOutOfBoundsException {
        requireIndex(device, now.devices.count);
        return now.devices.on[device];
    }

    public boolean isSafe() {
        return now.safe;
    }

    public int events() {
        return now.events.count;
    }

    public char eventAt(int index) throws IndexOutOfBoundsException {
        requireIndex(index, now.events.count);
        return now.events.row[index];
    }

    public int timeLeft() {
        return minutesToDeath(NO_DEVICE, FORECAST_MINUTES);
    }

    public int worst() {
        int least = minutesToDeath(NO_DEVICE, FORECAST_MINUTES);
        for (int device = 0; device < now.devices.count; device++) {
            least = minutesToDeath(device, least);
        }
        return least;
    }

    // Figures.

    public long checksum() {
        long sum = 0;
        for (int i = 0; i < now.rooms.count; i++) {
            sum = 31 * sum + now.rooms.oxygen[i] + 7L * now.rooms.carbon[i];
        }
        return sum;
    }

    public float aliveShare() throws ArithmeticException {
        int all = now.crew.count;
        if (all == 0) {
            throw new ArithmeticException("nobody came");
        }
        return (float) now.crew.alive() / (float) all;
    }

    public double meanOxygen() throws ArithmeticException {
        int number = now.rooms.count;
        if (number == 0) {
            throw new ArithmeticException("there are no rooms");
        }
        return (double) now.rooms.oxygenSum() / (double) number;
    }

    public boolean isSound() {
        return now.keepsMass()
                && now.battery >= 0 && now.battery <= MAX_BATTERY
                && !now.commands.hasOverdue(now.minute)
                && worst() <= timeLeft();
    }

    // Behind how many minutes the first one dies while a device is off; the limit, if nobody does within it.
    private int minutesToDeath(int failedDevice, int limit) {
        if (now.crew.alive() == 0) {
            return limit;
        }
        forecast.copyFrom(now);
        forecast.devices.failed = failedDevice;
        for (int minutes = 1; minutes <= limit; minutes++) {
            forecast.passMinute();
            if (forecast.crew.dead > now.crew.dead) {
                return minutes;
            }
        }
        return limit;
    }

    private void requireRoom(int room) {
        requireIndex(room, now.rooms.count);
    }

    private void requireAlive(int person) {
        if (now.crew.died[person]) {
            throw new IllegalStateException("they died");
        }
    }

    private static void requireIndex(int index, int count) {
        if (index < 0 || index >= count) {
            throw new IndexOutOfBoundsException("no such number");
        }
    }

    private static void requireRange(int number, int least, int most) {
        if (number < least || number > most) {
            throw new IllegalArgumentException("out of range");
        }
    }

    /** All that a minute changes; there are two of it, so that a forecast leaves the real one as it is. */
    private static final class Station {
        final Rooms rooms = new Rooms();
        final Hatches hatches = new Hatches();
        final Devices devices = new Devices();
        final Crew crew = new Crew();
        final Commands commands = new Commands();
        final Ships ships = new Ships();
        final Events events;
        int minute;
        boolean safe;
        int panels = FIRST_PANELS;
        int battery = FIRST_BATTERY;
        int tank = FIRST_WATER;
        int store;
        // Oxygen and water that ever came aboard, for isSound.
        int came = FIRST_WATER;

        Station(int eventCapacity) {
            events = new Events(eventCapacity);
        }

        void copyFrom(Station from) {
            rooms.copyFrom(from.rooms);
            hatches.copyFrom(from.hatches);
            devices.copyFrom(from.devices);
            crew.copyFrom(from.crew);
            commands.copyFrom(from.commands);
            ships.copyFrom(from.ships);
            minute = from.minute;
            safe = from.safe;
            panels = from.panels;
            battery = from.battery;
            tank = from.tank;
            store = from.store;
            came = from.came;
        }

        void passMinute() {
            handleCommands();
            bringWater(ships.advance(events));
            runDevices();
            rooms.leakOut();
            levelRooms();
            crew.breathe(rooms, events, minute);
            if (!safe && crew.isInDanger(rooms)) {
                beginSafeMode();
            }
            minute++;
        }

        boolean keepsMass() {
            return came == rooms.oxygenSum() + rooms.carbonSum() + rooms.leaked + tank + store;
        }

        private void handleCommands() {
            int kept = 0;
            for (int i = 0; i < commands.count; i++) {
                if (commands.isOver(i, minute)) {
                    events.add('x');
                } else if (commands.hasArrived(i, minute) && hasContact()) {
                    obey(commands.kind[i], commands.target[i]);
                    events.add('c');
                } else {
                    commands.shift(i, kept);
                    kept++;
                }
            }
            commands.count = kept;
        }

        private void obey(char kind, int target) {
            if (kind == 'n' || kind == 'f') {
                devices.turn(target, kind == 'n');
            } else {
                hatches.turn(target, kind == 'o');
            }
        }

        private void bringWater(int units) {
            tank += units;
            came += units;
        }

        private void runDevices() {
            int power = battery + (isInSun() ? panels : 0);
            for (int i = 0; i < devices.count; i++) {
                char kind = devices.kind[i];
                int needed = Devices.powerOf(kind);
                if (devices.on[i] && i != devices.failed && power >= needed) {
                    power -= needed;
                    if (kind == 's') {
                        store += rooms.takeCarbon(devices.room[i], SCRUBBED_CARBON);
                    } else if (kind == 'e') {
                        tank -= rooms.addOxygen(devices.room[i], Math.min(MADE_OXYGEN, tank));
                    }
                }
            }
            battery = Math.min(power, MAX_BATTERY);
        }

        private void levelRooms() {
            for (int i = 0; i < hatches.count; i++) {
                if (hatches.open[i]) {
                    rooms.level(hatches.one[i], hatches.other[i]);
                }
            }
        }

        private void beginSafeMode() {
            safe = true;
            devices.darken();
            crew.stopWork();
            commands.count = 0;
            events.add('s');
        }

        private boolean isInSun() {
            return minute % ORBIT_MINUTES < SUN_MINUTES;
        }

        private boolean hasContact() {
            int inOrbit = minute % ORBIT_MINUTES;
            return inOrbit >= CONTACT_FROM && inOrbit <= CONTACT_TO;
        }
    }

    /** The air, by rooms. */
    private static final class Rooms {
        final int[] oxygen = new int[MAX_ROOMS];
        final int[] carbon = new int[MAX_ROOMS];
        final int[] leak = new int[MAX_ROOMS];
        int count;
        int leaked;

        boolean has(int room) {
            return room >= 0 && room < count;
        }

        boolean isFull() {
            return count >= MAX_ROOMS;
        }

        int add(int units) {
            oxygen[count] = units;
            count++;
            return count - 1;
        }

        void copyFrom(Rooms from) {
            for (int i = 0; i < from.count; i++) {
                oxygen[i] = from.oxygen[i];
                carbon[i] = from.carbon[i];
                leak[i] = from.leak[i];
            }
            count = from.count;
            leaked = from.leaked;
        }

        int addOxygen(int room, int units) {
            if (!has(room)) {
                return 0;
            }
            oxygen[room] += units;
            return units;
        }

        int takeCarbon(int room, int most) {
            if (!has(room)) {
                return 0;
            }
            int taken = Math.min(most, carbon[room]);
            carbon[room] -= taken;
            return taken;
        }

        int turnToCarbon(int room, int most) {
            if (!has(room)) {
                return 0;
            }
            int turned = Math.min(most, oxygen[room]);
            oxygen[room] -= turned;
            carbon[room] += turned;
            return turned;
        }

        void leakOut() {
            for (int i = 0; i < count; i++) {
                int lost = Math.min(leak[i], oxygen[i]);
                oxygen[i] -= lost;
                leaked += lost;
            }
        }

        void level(int one, int other) {
            if (!has(one) || !has(other)) {
                return;
            }
            // Java divides towards zero, so the same half goes over in either direction.
            int oxygenOver = (oxygen[one] - oxygen[other]) / 2;
            int carbonOver = (carbon[one] - carbon[other]) / 2;
            oxygen[one] -= oxygenOver;
            oxygen[other] += oxygenOver;
            carbon[one] -= carbonOver;
            carbon[other] += carbonOver;
        }

        boolean isDangerous(int room) {
            return has(room) && (oxygen[room] < LOW_OXYGEN || carbon[room] > HIGH_CARBON);
        }

        int oxygenSum() {
            int sum = 0;
            for (int i = 0; i < count; i++) {
                sum += oxygen[i];
            }
            return sum;
        }

        int carbonSum() {
            int sum = 0;
            for (int i = 0; i < count; i++) {
                sum += carbon[i];
            }
            return sum;
        }
    }

    private static final class Hatches {
        final int[] one = new int[MAX_HATCHES];
        final int[] other = new int[MAX_HATCHES];
        final boolean[] open = new boolean[MAX_HATCHES];
        int count;

        boolean isFull() {
            return count >= MAX_HATCHES;
        }

        int add(int oneRoom, int otherRoom) {
            one[count] = oneRoom;
            other[count] = otherRoom;
            open[count] = true;
            count++;
            return count - 1;
        }

        void copyFrom(Hatches from) {
            for (int i = 0; i < from.count; i++) {
                one[i] = from.one[i];
                other[i] = from.other[i];
                open[i] = from.open[i];
            }
            count = from.count;
        }

        void turn(int hatch, boolean toOpen) {
            if (hatch >= 0 && hatch < count) {
                open[hatch] = toOpen;
            }
        }

        boolean joinsOpen(int room, int next) {
            for (int i = 0; i < count; i++) {
                boolean isThere = one[i] == room && other[i] == next;
                boolean isBack = one[i] == next && other[i] == room;
                if (open[i] && (isThere || isBack)) {
                    return true;
                }
            }
            return false;
        }
    }

    private static final class Devices {
        final char[] kind = new char[MAX_DEVICES];
        final int[] room = new int[MAX_DEVICES];
        final boolean[] on = new boolean[MAX_DEVICES];
        int count;
        // A device that a forecast takes as off, whatever a command tells it.
        int failed = NO_DEVICE;

        boolean isFull() {
            return count >= MAX_DEVICES;
        }

        int add(char newKind, int newRoom) {
            kind[count] = newKind;
            room[count] = newRoom;
            count++;
            return count - 1;
        }

        void copyFrom(Devices from) {
            for (int i = 0; i < from.count; i++) {
                kind[i] = from.kind[i];
                room[i] = from.room[i];
                on[i] = from.on[i];
            }
            count = from.count;
            failed = from.failed;
        }

        void turn(int device, boolean toOn) {
            if (device >= 0 && device < count) {
                on[device] = toOn;
            }
        }

        void darken() {
            for (int i = 0; i < count; i++) {
                if (kind[i] == 'l') {
                    on[i] = false;
                }
            }
        }

        static int powerOf(char kind) {
            if (kind == 's') {
                return SCRUBBER_POWER;
            }
            return kind == 'e' ? ELECTROLYSER_POWER : LAMP_POWER;
        }
    }

    private static final class Crew {
        final int[] room = new int[MAX_PEOPLE];
        final char[] task = new char[MAX_PEOPLE];
        final int[] shortMinutes = new int[MAX_PEOPLE];
        final boolean[] died = new boolean[MAX_PEOPLE];
        int count;
        int dead;

        boolean isFull() {
            return count >= MAX_PEOPLE;
        }

        int add(int newRoom) {
            room[count] = newRoom;
            task[count] = 'r';
            count++;
            return count - 1;
        }

        void copyFrom(Crew from) {
            for (int i = 0; i < from.count; i++) {
                room[i] = from.room[i];
                task[i] = from.task[i];
                shortMinutes[i] = from.shortMinutes[i];
                died[i] = from.died[i];
            }
            count = from.count;
            dead = from.dead;
        }

        int alive() {
            return count - dead;
        }

        void breathe(Rooms rooms, Events events, int minute) {
            for (int i = 0; i < count; i++) {
                if (!died[i]) {
                    int needed = neededBy(task[i], minute);
                    boolean isShort = rooms.turnToCarbon(room[i], needed) < needed;
                    shortMinutes[i] = isShort ? shortMinutes[i] + 1 : 0;
                    if (shortMinutes[i] >= FATAL_MINUTES) {
                        died[i] = true;
                        dead++;
                        events.add('k');
                    }
                }
            }
        }

        boolean isInDanger(Rooms rooms) {
            for (int i = 0; i < count; i++) {
                if (!died[i] && rooms.isDangerous(room[i])) {
                    return true;
                }
            }
            return false;
        }

        void stopWork() {
            for (int i = 0; i < count; i++) {
                if (task[i] == 'w') {
                    task[i] = 'r';
                }
            }
        }

        private static int neededBy(char task, int minute) {
            if (task == 's') {
                return minute % 2 == 0 ? 1 : 0;
            }
            return task == 'w' ? 2 : 1;
        }
    }

    private static final class Commands {
        final char[] kind = new char[MAX_COMMANDS];
        final int[] target = new int[MAX_COMMANDS];
        final int[] arrival = new int[MAX_COMMANDS];
        final int[] life = new int[MAX_COMMANDS];
        int count;

        boolean isFull() {
            return count >= MAX_COMMANDS;
        }

        int add(char newKind, int newTarget, int newArrival, int newLife) {
            kind[count] = newKind;
            target[count] = newTarget;
            arrival[count] = newArrival;
            life[count] = newLife;
            count++;
            return count;
        }

        void copyFrom(Commands from) {
            for (int i = 0; i < from.count; i++) {
                kind[i] = from.kind[i];
                target[i] = from.target[i];
                arrival[i] = from.arrival[i];
                life[i] = from.life[i];
            }
            count = from.count;
        }

        // Closes the gap that commands ahead of this one have left; the order stays.
        void shift(int from, int to) {
            kind[to] = kind[from];
            target[to] = target[from];
            arrival[to] = arrival[from];
            life[to] = life[from];
        }

        boolean hasArrived(int command, int minute) {
            return minute >= arrival[command];
        }

        boolean isOver(int command, int minute) {
            return minute - arrival[command] > life[command];
        }

        boolean hasOverdue(int minute) {
            for (int i = 0; i < count; i++) {
                if (minute - arrival[i] > life[i] + 1) {
                    return true;
                }
            }
            return false;
        }
    }

    private static final class Ships {
        final int[] distance = new int[MAX_SHIPS];
        final int[] speed = new int[MAX_SHIPS];
        final int[] fuel = new int[MAX_SHIPS];
        final int[] water = new int[MAX_SHIPS];
        final boolean[] gone = new boolean[MAX_SHIPS];
        int count;

        boolean isFull() {
            return count >= MAX_SHIPS;
        }

        int add(int newDistance, int newWater) {
            distance[count] = newDistance;
            water[count] = newWater;
            fuel[count] = FIRST_FUEL;
            count++;
            return count - 1;
        }

        void copyFrom(Ships from) {
            for (int i = 0; i < from.count; i++) {
                distance[i] = from.distance[i];
                speed[i] = from.speed[i];
                fuel[i] = from.fuel[i];
                water[i] = from.water[i];
                gone[i] = from.gone[i];
            }
            count = from.count;
        }

        // Moves all ships and answers the water of those that docked.
        int advance(Events events) {
            int brought = 0;
            for (int i = 0; i < count; i++) {
                if (!gone[i]) {
                    distance[i] -= speed[i];
                    if (distance[i] <= 0) {
                        brought += arrive(i, events);
                    }
                }
            }
            return brought;
        }

        private int arrive(int ship, Events events) {
            if (speed[ship] <= DOCKING_SPEED) {
                gone[ship] = true;
                events.add('d');
                return water[ship];
            }
            distance[ship] = TURNED_DISTANCE;
            speed[ship] = 0;
            events.add('t');
            return 0;
        }
    }

    /** A row without capacity keeps nothing: a forecast tells no events. */
    private static final class Events {
        final char[] row;
        int count;

        Events(int capacity) {
            row = new char[capacity < 0 ? 0 : capacity];
        }

        void add(char event) {
            if (count < row.length) {
                row[count] = event;
                count++;
            }
        }
    }
}
