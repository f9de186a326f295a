import java.util.ArrayDeque;
import java.util.ArrayList;
import java.util.HashMap;
import java.util.List;
import java.util.Map;
import java.util.TreeMap;

/** The document written a second time, with the Java library and without regard to room or speed. */
final class Model {
    private static final int NONE = -9;

    private record Place(int x, int y) {
        long distance(Place other) {
            long dx = Math.abs(x - other.x);
            long dy = Math.abs(y - other.y);
            return dx * dx + dy * dy;
        }
    }

    private static final class Node {
        Place place;
        long battery;
        boolean eligible = true;
        int headRounds = 0;
        Integer died = null;
        Integer head = null;
        Integer slot = null;

        Node copy() {
            Node c = new Node();
            c.place = place;
            c.battery = battery;
            c.eligible = eligible;
            c.headRounds = headRounds;
            c.died = died;
            c.head = head;
            c.slot = slot;
            return c;
        }

        boolean lives() {
            return died == null;
        }
    }

    private static final class State {
        List<Node> nodes = new ArrayList<>();
        Place base = new Place(50, 150);
        Map<Integer, Integer> settings = new HashMap<>(Map.of(0, 4, 1, 5, 2, 100, 3, 1, 4, 2, 5, 0));
        long generator = 1;
        int round = 0;
        int heads = 0;
        int last = 0;
        int total = 0;
        long paid = 0;

        State copy() {
            State c = new State();
            for (Node n : nodes) {
                c.nodes.add(n.copy());
            }
            c.base = base;
            c.settings = new HashMap<>(settings);
            c.generator = generator;
            c.round = round;
            c.heads = heads;
            c.last = last;
            c.total = total;
            c.paid = paid;
            return c;
        }

        boolean anyLives() {
            return nodes.stream().anyMatch(Node::lives);
        }

        long cost(Place from, Place to) {
            return settings.get(1) + from.distance(to) / settings.get(2);
        }

        boolean charge(Node n, long cost) {
            if (n.battery >= cost) {
                n.battery -= cost;
                paid += cost;
                return true;
            }
            n.died = round;
            return false;
        }

        boolean take(Node n) {
            return n.lives() && charge(n, settings.get(1)) && charge(n, settings.get(3));
        }

        int play(int limit) {
            int played = 0;
            while (played < limit && anyLives()) {
                playRound();
                played++;
            }
            return played;
        }

        void playRound() {
            int phase = round % settings.get(0);
            last = 0;
            for (Node n : nodes) {
                n.head = null;
                n.slot = null;
                if (phase == 0) {
                    n.eligible = true;
                }
            }
            List<Integer> elected = new ArrayList<>();
            for (int i = 0; i < nodes.size(); i++) {
                Node n = nodes.get(i);
                if (n.lives() && n.eligible) {
                    generator = (generator * 1103515245L + 12345L) & 0x7fffffffL;
                    if ((generator >> 16) % 1000 * (settings.get(0) - phase) < 1000) {
                        elected.add(i);
                    }
                }
            }
            // The heads in ascending order, each with the sensors that joined it.
            TreeMap<Integer, List<Integer>> clusters = new TreeMap<>();
            for (int i : elected) {
                Node n = nodes.get(i);
                if (charge(n, settings.get(4))) {
                    clusters.put(i, new ArrayList<>());
                    n.head = i;
                    n.eligible = false;
                    n.headRounds++;
                }
            }
            heads = clusters.size();
            if (clusters.isEmpty()) {
                for (Node n : nodes) {
                    if (n.lives() && charge(n, cost(n.place, base))) {
                        last++;
                    }
                }
            } else {
                join(clusters);
                last = deliver(report(clusters));
            }
            total += last;
            round++;
        }

        void join(TreeMap<Integer, List<Integer>> clusters) {
            for (int i = 0; i < nodes.size(); i++) {
                Node n = nodes.get(i);
                if (n.lives() && !clusters.containsKey(i)) {
                    int best = clusters.firstKey();
                    for (int h : clusters.keySet()) {
                        if (n.place.distance(nodes.get(h).place) < n.place.distance(nodes.get(best).place)) {
                            best = h;
                        }
                    }
                    n.head = best;
                    n.slot = clusters.get(best).size();
                    clusters.get(best).add(i);
                }
            }
        }

        /** The living heads in ascending order with the number of readings that are with each. */
        TreeMap<Integer, Integer> report(TreeMap<Integer, List<Integer>> clusters) {
            TreeMap<Integer, Integer> readings = new TreeMap<>();
            for (int h : clusters.keySet()) {
                Node head = nodes.get(h);
                int with = 0;
                for (int i : clusters.get(h)) {
                    Node n = nodes.get(i);
                    if (charge(n, cost(n.place, head.place)) && take(head)) {
                        with++;
                    }
                }
                readings.put(h, with);
            }
            TreeMap<Integer, Integer> left = new TreeMap<>();
            for (int h : readings.keySet()) {
                Node head = nodes.get(h);
                if (head.lives() && charge(head, settings.get(3))) {
                    left.put(h, readings.get(h) + 1);
                }
            }
            return left;
        }

        int deliver(TreeMap<Integer, Integer> readings) {
            if (readings.isEmpty()) {
                return 0;
            }
            int delivered = 0;
            if (settings.get(5) == 0) {
                for (int h : readings.keySet()) {
                    if (charge(nodes.get(h), cost(nodes.get(h).place, base))) {
                        delivered += readings.get(h);
                    }
                }
                return delivered;
            }
            int relay = readings.firstKey();
            for (int h : readings.keySet()) {
                if (nodes.get(h).place.distance(base) < nodes.get(relay).place.distance(base)) {
                    relay = h;
                }
            }
            Node r = nodes.get(relay);
            int with = readings.remove(relay);
            for (int h : readings.keySet()) {
                if (charge(nodes.get(h), cost(nodes.get(h).place, r.place)) && take(r)) {
                    with += readings.get(h);
                }
            }
            return r.lives() && charge(r, cost(r.place, base)) ? with : 0;
        }
    }

    private State now = new State();
    private final ArrayDeque<State> saved = new ArrayDeque<>();
    private final Map<Integer, State> slots = new HashMap<>();

    private void keep() {
        saved.addLast(now.copy());
        if (saved.size() > 6) {
            saved.removeFirst();
        }
    }

    private boolean unknown(int sensor) {
        return sensor < 0 || sensor >= now.nodes.size();
    }

    private static boolean out(int value, int least, int greatest) {
        return value < least || value > greatest;
    }

    int addSensor(int x, int y, int battery) {
        if (out(x, 0, 99) || out(y, 0, 99) || out(battery, 0, 100000)) {
            return -1;
        }
        if (now.nodes.size() == 12) {
            return -3;
        }
        keep();
        Node n = new Node();
        n.place = new Place(x, y);
        n.battery = battery;
        now.nodes.add(n);
        return now.nodes.size() - 1;
    }

    int moveBase(int x, int y) {
        if (out(x, 0, 199) || out(y, 0, 199)) {
            return -1;
        }
        keep();
        Place old = now.base;
        now.base = new Place(x, y);
        return 200 * old.x() + old.y();
    }

    int setSetting(int setting, int value) {
        int[][] ranges = {{2, 8}, {1, 50}, {1, 1000}, {0, 20}, {0, 50}, {0, 1}};
        if (out(setting, 0, 5) || out(value, ranges[setting][0], ranges[setting][1])) {
            return -1;
        }
        if (now.settings.get(setting) == value) {
            return -2;
        }
        keep();
        return now.settings.put(setting, value);
    }

    int setGenerator(int state) {
        if (state < 0) {
            return -1;
        }
        keep();
        now.generator = state;
        return now.round;
    }

    int charge(int sensor, int units) {
        if (unknown(sensor) || out(units, 1, 100000)) {
            return -1;
        }
        Node n = now.nodes.get(sensor);
        if (!n.lives() || n.battery + units > 1000000) {
            return -2;
        }
        keep();
        n.battery += units;
        return (int) n.battery;
    }

    int run(int rounds) {
        if (out(rounds, 1, 50)) {
            return -1;
        }
        if (!now.anyLives()) {
            return -2;
        }
        keep();
        return now.play(rounds);
    }

    int roundNumber() {
        return now.round;
    }

    int sensorCount() {
        return now.nodes.size();
    }

    int aliveCount() {
        return (int) now.nodes.stream().filter(Node::lives).count();
    }

    int isAlive(int sensor) {
        return unknown(sensor) ? -1 : now.nodes.get(sensor).lives() ? 1 : 0;
    }

    int battery(int sensor) {
        return unknown(sensor) ? -1 : (int) now.nodes.get(sensor).battery;
    }

    int isEligible(int sensor) {
        if (unknown(sensor)) {
            return -1;
        }
        boolean newCycle = now.round % now.settings.get(0) == 0;
        Node n = now.nodes.get(sensor);
        return n.lives() && (n.eligible || newCycle) ? 1 : 0;
    }

    int headRounds(int sensor) {
        return unknown(sensor) ? -1 : now.nodes.get(sensor).headRounds;
    }

    int deathRound(int sensor) {
        return unknown(sensor) ? -1 : orNone(now.nodes.get(sensor).died);
    }

    int headOf(int sensor) {
        return unknown(sensor) ? -1 : orNone(now.nodes.get(sensor).head);
    }

    int slotOf(int sensor) {
        return unknown(sensor) ? -1 : orNone(now.nodes.get(sensor).slot);
    }

    private static int orNone(Integer value) {
        return value == null ? NONE : value;
    }

    int headCount() {
        return now.heads;
    }

    int lastDelivered() {
        return now.last;
    }

    int deliveredTotal() {
        return now.total;
    }

    int energyPaid() {
        return (int) now.paid;
    }

    int sendCost(int sensor, int target) {
        if (unknown(sensor) || (target != NONE && unknown(target)) || sensor == target) {
            return -1;
        }
        Place to = target == NONE ? now.base : now.nodes.get(target).place;
        return (int) now.cost(now.nodes.get(sensor).place, to);
    }

    int forecastDeath(int sensor, int rounds) {
        if (unknown(sensor) || out(rounds, 1, 300)) {
            return -1;
        }
        if (!now.nodes.get(sensor).lives()) {
            return -2;
        }
        State later = now.copy();
        later.play(rounds);
        return orNone(later.nodes.get(sensor).died);
    }

    int forecastDelivered(int rounds) {
        if (out(rounds, 1, 300)) {
            return -1;
        }
        State later = now.copy();
        later.play(rounds);
        return later.total - now.total;
    }

    int undo() {
        if (saved.isEmpty()) {
            return -2;
        }
        now = saved.removeLast();
        return saved.size();
    }

    int undoDepth() {
        return saved.size();
    }

    int save(int slot) {
        if (out(slot, 0, 1)) {
            return -1;
        }
        slots.put(slot, now.copy());
        return now.nodes.size();
    }

    int restore(int slot) {
        if (out(slot, 0, 1)) {
            return -1;
        }
        if (!slots.containsKey(slot)) {
            return -2;
        }
        now = slots.get(slot).copy();
        saved.clear();
        return now.nodes.size();
    }
}
