/** A simulator of a clustered wireless sensor network; ../shared/DOC.md promises what each call answers. */
public final class ClusterField {
    public static final int INVALID_ARGUMENT = -1;
    public static final int ILLEGAL_STATE = -2;
    public static final int CAPACITY_EXCEEDED = -3;
    public static final int NONE = -9;

    private static final int MAX_SENSORS = 12;
    private static final int MAX_SENSOR_COORDINATE = 99;
    private static final int MAX_BASE_COORDINATE = 199;
    private static final int BASE_RADIX = 200;
    private static final int MAX_NEW_UNITS = 100000;
    private static final int MAX_BATTERY = 1000000;
    private static final int MAX_RUN = 50;
    private static final int MAX_FORECAST = 300;
    private static final int SNAPSHOTS = 2;

    private final Network network;
    private final Rounds livePlay;
    // Forecasts are played here, so that the network itself stays as it is.
    private final Network trial;
    private final Rounds trialPlay;
    private final History history;
    private final Network[] snapshots;
    private final boolean[] snapshotFilled;

    // Every copy is made here once and used again, so that no later call makes an object.
    public ClusterField() {
        network = new Network();
        livePlay = new Rounds(network);
        trial = new Network();
        trialPlay = new Rounds(trial);
        history = new History();
        snapshots = new Network[SNAPSHOTS];
        for (int i = 0; i < SNAPSHOTS; i++) {
            snapshots[i] = new Network();
        }
        snapshotFilled = new boolean[SNAPSHOTS];
    }

    public int addSensor(int x, int y, int battery) {
        if (!inRange(x, 0, MAX_SENSOR_COORDINATE) || !inRange(y, 0, MAX_SENSOR_COORDINATE)
                || !inRange(battery, 0, MAX_NEW_UNITS)) {
            return INVALID_ARGUMENT;
        }
        if (network.count >= MAX_SENSORS) {
            return CAPACITY_EXCEEDED;
        }
        history.push(network);
        network.sensors[network.count].place(x, y, battery);
        network.count++;
        return network.count - 1;
    }

    public int moveBase(int x, int y) {
        if (!inRange(x, 0, MAX_BASE_COORDINATE) || !inRange(y, 0, MAX_BASE_COORDINATE)) {
            return INVALID_ARGUMENT;
        }
        history.push(network);
        int previous = BASE_RADIX * network.baseX + network.baseY;
        network.baseX = x;
        network.baseY = y;
        return previous;
    }

    public int setSetting(int setting, int value) {
        if (!inRange(setting, 0, Network.SETTINGS - 1)
                || !inRange(value, Network.LEAST[setting], Network.GREATEST[setting])) {
            return INVALID_ARGUMENT;
        }
        int previous = network.settings[setting];
        if (value == previous) {
            return ILLEGAL_STATE;
        }
        history.push(network);
        network.settings[setting] = value;
        return previous;
    }

    public int setGenerator(int state) {
        if (state < 0) {
            return INVALID_ARGUMENT;
        }
        history.push(network);
        network.generator = state;
        return network.round;
    }

    public int charge(int sensor, int units) {
        if (!network.has(sensor) || !inRange(units, 1, MAX_NEW_UNITS)) {
            return INVALID_ARGUMENT;
        }
        Sensor charged = network.sensors[sensor];
        if (!charged.alive || charged.battery + units > MAX_BATTERY) {
            return ILLEGAL_STATE;
        }
        history.push(network);
        charged.battery += units;
        return charged.battery;
    }

    public int run(int rounds) {
        if (!inRange(rounds, 1, MAX_RUN)) {
            return INVALID_ARGUMENT;
        }
        if (network.countAlive() == 0) {
            return ILLEGAL_STATE;
        }
        history.push(network);
        return livePlay.perform(rounds);
    }

    public int roundNumber() {
        return network.round;
    }

    public int sensorCount() {
        return network.count;
    }

    public int aliveCount() {
        return network.countAlive();
    }

    public int isAlive(int sensor) {
        if (!network.has(sensor)) {
            return INVALID_ARGUMENT;
        }
        return network.sensors[sensor].alive ? 1 : 0;
    }

    public int battery(int sensor) {
        if (!network.has(sensor)) {
            return INVALID_ARGUMENT;
        }
        return network.sensors[sensor].battery;
    }

    public int isEligible(int sensor) {
        if (!network.has(sensor)) {
            return INVALID_ARGUMENT;
        }
        Sensor asked = network.sensors[sensor];
        return asked.alive && (asked.eligible || network.phase() == 0) ? 1 : 0;
    }

    public int headRounds(int sensor) {
        if (!network.has(sensor)) {
            return INVALID_ARGUMENT;
        }
        return network.sensors[sensor].headRounds;
    }

    public int deathRound(int sensor) {
        if (!network.has(sensor)) {
            return INVALID_ARGUMENT;
        }
        return network.sensors[sensor].deathRound;
    }

    public int headOf(int sensor) {
        if (!network.has(sensor)) {
            return INVALID_ARGUMENT;
        }
        return network.sensors[sensor].head;
    }

    public int slotOf(int sensor) {
        if (!network.has(sensor)) {
            return INVALID_ARGUMENT;
        }
        return network.sensors[sensor].slot;
    }

    public int headCount() {
        return network.lastHeads;
    }

    public int lastDelivered() {
        return network.lastReadings;
    }

    public int deliveredTotal() {
        return network.allReadings;
    }

    public int energyPaid() {
        return network.paid;
    }

    public int sendCost(int sensor, int target) {
        if (!network.has(sensor) || target == sensor) {
            return INVALID_ARGUMENT;
        }
        Sensor sender = network.sensors[sensor];
        if (target == NONE) {
            return network.costOver(sender.distanceTo(network.baseX, network.baseY));
        }
        if (!network.has(target)) {
            return INVALID_ARGUMENT;
        }
        Sensor receiver = network.sensors[target];
        return network.costOver(sender.distanceTo(receiver.x, receiver.y));
    }

    public int forecastDeath(int sensor, int rounds) {
        if (!network.has(sensor) || !inRange(rounds, 1, MAX_FORECAST)) {
            return INVALID_ARGUMENT;
        }
        if (!network.sensors[sensor].alive) {
            return ILLEGAL_STATE;
        }
        trial.copyFrom(network);
        trialPlay.perform(rounds);
        return trial.sensors[sensor].deathRound;
    }

    public int forecastDelivered(int rounds) {
        if (!inRange(rounds, 1, MAX_FORECAST)) {
            return INVALID_ARGUMENT;
        }
        trial.copyFrom(network);
        trialPlay.perform(rounds);
        return trial.allReadings - network.allReadings;
    }

    public int undo() {
        if (history.depth == 0) {
            return ILLEGAL_STATE;
        }
        history.popInto(network);
        return history.depth;
    }

    public int undoDepth() {
        return history.depth;
    }

    public int save(int slot) {
        if (!inRange(slot, 0, SNAPSHOTS - 1)) {
            return INVALID_ARGUMENT;
        }
        snapshots[slot].copyFrom(network);
        snapshotFilled[slot] = true;
        return network.count;
    }

    public int restore(int slot) {
        if (!inRange(slot, 0, SNAPSHOTS - 1)) {
            return INVALID_ARGUMENT;
        }
        if (!snapshotFilled[slot]) {
            return ILLEGAL_STATE;
        }
        network.copyFrom(snapshots[slot]);
        history.depth = 0;
        return network.count;
    }

    private static boolean inRange(int value, int least, int greatest) {
        return value >= least && value <= greatest;
    }

    /** One sensor: its state, and what it does in the round that is being played. */
    private static final class Sensor {
        int x;
        int y;
        int battery;
        boolean alive;
        boolean eligible;
        int headRounds;
        int deathRound;
        int head;
        int slot;
        // These two mean nothing between rounds, so copies leave them out.
        boolean elected;
        int readings;

        // A place in the network may have held another sensor before an undo, so every field is set.
        void place(int newX, int newY, int units) {
            x = newX;
            y = newY;
            battery = units;
            alive = true;
            eligible = true;
            headRounds = 0;
            deathRound = NONE;
            beginRound();
        }

        void beginRound() {
            head = NONE;
            slot = NONE;
            elected = false;
            readings = 0;
        }

        void copyFrom(Sensor other) {
            x = other.x;
            y = other.y;
            battery = other.battery;
            alive = other.alive;
            eligible = other.eligible;
            headRounds = other.headRounds;
            deathRound = other.deathRound;
            head = other.head;
            slot = other.slot;
        }

        int distanceTo(int otherX, int otherY) {
            int dx = x - otherX;
            int dy = y - otherY;
            return dx * dx + dy * dy;
        }
    }

    /** The whole state that undo and the snapshots keep, and what can be read from it. */
    private static final class Network {
        static final int CYCLE = 0;
        static final int ELECTRONICS = 1;
        static final int DIVISOR = 2;
        static final int AGGREGATION = 3;
        static final int ANNOUNCEMENT = 4;
        static final int ROUTING = 5;
        static final int SETTINGS = 6;
        static final int[] FIRST = {4, 5, 100, 1, 2, 0};
        static final int[] LEAST = {2, 1, 1, 0, 0, 0};
        static final int[] GREATEST = {8, 50, 1000, 20, 50, 1};
        static final int FIRST_BASE_X = 50;
        static final int FIRST_BASE_Y = 150;

        final Sensor[] sensors = new Sensor[MAX_SENSORS];
        final int[] settings = new int[SETTINGS];
        int count;
        int baseX = FIRST_BASE_X;
        int baseY = FIRST_BASE_Y;
        int generator = 1;
        int round;
        int lastHeads;
        int lastReadings;
        int allReadings;
        int paid;

        Network() {
            for (int i = 0; i < MAX_SENSORS; i++) {
                sensors[i] = new Sensor();
            }
            System.arraycopy(FIRST, 0, settings, 0, SETTINGS);
        }

        void copyFrom(Network other) {
            count = other.count;
            for (int i = 0; i < count; i++) {
                sensors[i].copyFrom(other.sensors[i]);
            }
            System.arraycopy(other.settings, 0, settings, 0, SETTINGS);
            baseX = other.baseX;
            baseY = other.baseY;
            generator = other.generator;
            round = other.round;
            lastHeads = other.lastHeads;
            lastReadings = other.lastReadings;
            allReadings = other.allReadings;
            paid = other.paid;
        }

        boolean has(int number) {
            return number >= 0 && number < count;
        }

        int countAlive() {
            int living = 0;
            for (int i = 0; i < count; i++) {
                if (sensors[i].alive) {
                    living++;
                }
            }
            return living;
        }

        // The settings that divide are never below 1; LANGUAGE.md's rule 7 wants them looked at all the same.
        int phase() {
            int cycle = settings[CYCLE];
            return cycle > 0 ? round % cycle : 0;
        }

        int costOver(int distance) {
            int divisor = settings[DIVISOR];
            return settings[ELECTRONICS] + (divisor > 0 ? distance / divisor : 0);
        }
    }

    /** The steps of a round, played on one network. */
    private static final class Rounds {
        static final long FACTOR = 1103515245L;
        static final long INCREMENT = 12345L;
        static final long MODULUS = 2147483648L;
        static final int DRAW_SHIFT = 65536;
        static final int DRAWS = 1000;
        static final int RELAY_ROUTING = 1;

        final Network net;

        Rounds(Network played) {
            net = played;
        }

        int perform(int limit) {
            int performed = 0;
            while (performed < limit && net.countAlive() > 0) {
                performOne();
                performed++;
            }
            return performed;
        }

        void performOne() {
            begin();
            elect();
            announce();
            if (net.lastHeads == 0) {
                reportToBase();
            } else {
                join();
                reportToHeads();
                addOwnReadings();
                deliver();
            }
            net.allReadings += net.lastReadings;
            net.round++;
        }

        void begin() {
            boolean allEligible = net.phase() == 0;
            for (int i = 0; i < net.count; i++) {
                Sensor sensor = net.sensors[i];
                sensor.beginRound();
                if (allEligible) {
                    sensor.eligible = true;
                }
            }
            net.lastHeads = 0;
            net.lastReadings = 0;
        }

        void elect() {
            int left = net.settings[Network.CYCLE] - net.phase();
            for (int i = 0; i < net.count; i++) {
                Sensor sensor = net.sensors[i];
                if (sensor.alive && sensor.eligible) {
                    sensor.elected = draw() * left < DRAWS;
                }
            }
        }

        int draw() {
            long next = (net.generator * FACTOR + INCREMENT) % MODULUS;
            net.generator = (int) next;
            return net.generator / DRAW_SHIFT % DRAWS;
        }

        void announce() {
            for (int i = 0; i < net.count; i++) {
                Sensor sensor = net.sensors[i];
                if (sensor.elected && pays(sensor, net.settings[Network.ANNOUNCEMENT])) {
                    sensor.head = i;
                    sensor.eligible = false;
                    sensor.headRounds++;
                    net.lastHeads++;
                }
            }
        }

        void join() {
            for (int i = 0; i < net.count; i++) {
                Sensor sensor = net.sensors[i];
                if (sensor.alive && sensor.head != i) {
                    sensor.head = nearestHead(sensor.x, sensor.y);
                }
            }
            for (int h = 0; h < net.count; h++) {
                if (isHead(h)) {
                    giveSlots(h);
                }
            }
        }

        // Only living heads are asked for: nobody joins after a head has died, and no dead head is the relay.
        int nearestHead(int x, int y) {
            int nearest = NONE;
            int least = 0;
            for (int h = 0; h < net.count; h++) {
                if (isLivingHead(h)) {
                    int distance = net.sensors[h].distanceTo(x, y);
                    if (nearest == NONE || distance < least) {
                        nearest = h;
                        least = distance;
                    }
                }
            }
            return nearest;
        }

        void giveSlots(int head) {
            int slot = 0;
            for (int i = 0; i < net.count; i++) {
                if (hasJoined(i, head)) {
                    net.sensors[i].slot = slot;
                    slot++;
                }
            }
        }

        // A sensor that joined a head has that one's number, so it is never taken for a head.
        boolean isHead(int number) {
            return net.sensors[number].head == number;
        }

        boolean isLivingHead(int number) {
            Sensor sensor = net.sensors[number];
            return sensor.alive && sensor.head == number;
        }

        boolean hasJoined(int number, int head) {
            return number != head && net.sensors[number].head == head;
        }

        void reportToHeads() {
            for (int h = 0; h < net.count; h++) {
                if (isHead(h)) {
                    reportTo(h);
                }
            }
        }

        // A head that has died is still sent to: its members do not hear of it.
        void reportTo(int number) {
            Sensor head = net.sensors[number];
            for (int i = 0; i < net.count; i++) {
                Sensor sensor = net.sensors[i];
                if (hasJoined(i, number) && sensor.alive && sends(sensor, head)) {
                    head.readings++;
                }
            }
        }

        void addOwnReadings() {
            for (int h = 0; h < net.count; h++) {
                Sensor head = net.sensors[h];
                if (isLivingHead(h) && pays(head, net.settings[Network.AGGREGATION])) {
                    head.readings++;
                }
            }
        }

        void deliver() {
            if (net.settings[Network.ROUTING] == RELAY_ROUTING) {
                deliverThroughRelay();
            } else {
                deliverDirectly();
            }
        }

        void deliverDirectly() {
            for (int h = 0; h < net.count; h++) {
                Sensor head = net.sensors[h];
                if (isLivingHead(h)) {
                    sendToBase(head, head.readings);
                }
            }
        }

        void deliverThroughRelay() {
            int chosen = nearestHead(net.baseX, net.baseY);
            if (!net.has(chosen)) {
                return;
            }
            Sensor relay = net.sensors[chosen];
            for (int h = 0; h < net.count; h++) {
                Sensor head = net.sensors[h];
                if (h != chosen && isLivingHead(h) && sends(head, relay)) {
                    relay.readings += head.readings;
                }
            }
            if (relay.alive) {
                sendToBase(relay, relay.readings);
            }
        }

        void reportToBase() {
            for (int i = 0; i < net.count; i++) {
                Sensor sensor = net.sensors[i];
                if (sensor.alive) {
                    sendToBase(sensor, 1);
                }
            }
        }

        void sendToBase(Sensor sender, int readings) {
            if (pays(sender, net.costOver(sender.distanceTo(net.baseX, net.baseY)))) {
                net.lastReadings += readings;
            }
        }

        // True only if the message is with the receiver afterwards; the sender pays for a lost one too.
        boolean sends(Sensor sender, Sensor receiver) {
            return pays(sender, net.costOver(sender.distanceTo(receiver.x, receiver.y)))
                    && receiver.alive
                    && pays(receiver, net.settings[Network.ELECTRONICS])
                    && pays(receiver, net.settings[Network.AGGREGATION]);
        }

        boolean pays(Sensor sensor, int cost) {
            if (sensor.battery < cost) {
                sensor.alive = false;
                sensor.deathRound = net.round;
                return false;
            }
            sensor.battery -= cost;
            net.paid += cost;
            return true;
        }
    }

    /** The states that undo() can go back to, the oldest first. */
    private static final class History {
        static final int LIMIT = 6;

        final Network[] saved = new Network[LIMIT];
        int depth;

        History() {
            for (int i = 0; i < LIMIT; i++) {
                saved[i] = new Network();
            }
        }

        void push(Network present) {
            if (depth >= LIMIT) {
                dropOldest();
            }
            saved[depth].copyFrom(present);
            depth++;
        }

        // The dropped network is put at the end, to be written over.
        void dropOldest() {
            Network oldest = saved[0];
            for (int i = 1; i < LIMIT; i++) {
                saved[i - 1] = saved[i];
            }
            saved[LIMIT - 1] = oldest;
            depth = LIMIT - 1;
        }

        void popInto(Network present) {
            if (depth > 0) {
                depth--;
                present.copyFrom(saved[depth]);
            }
        }
    }
}
